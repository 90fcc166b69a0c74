set_option maxHeartbeats 4000000 in
set_option maxRecDepth 100000 in
theorem c_L_reads (l : Launch) (o b : Nat) (S : sS) (tf : Nat → Int32) (tn P : Nat) (C : Nat → sS) (kp : Nat → Bool) (zp : Nat) (g h : Int32) (σ : gS) (sz : Nat) (hW : Wo σ o b S tf tn P C kp zp) (hY : okY S) (hzp : zp ≤ sz) (hC : okC P C kp) : gM l yL_reads wsL_reads ({ frames := 7, cells := 19, slots := 917, locals := 162 } : Room) 19 917 [.ref o, .int g, .int h] σ sz (gxi (fun r τ n => r = nI 1 ∧ ∃ (S2 : sS) (tf2 : Nat → Int32) (tn2 P2 : Nat) (C2 : Nat → sS), Wo τ o b S2 tf2 tn2 P2 C2 kp n ∧ okY S2 ∧ 0 < sB S2 ∧ sN S2 = sN S ∧ okC P2 C2 kp ∧ sz ≤ n ∧ n ≤ sz + 19)) := by
  refine gM_of (cc := cL_reads) (maxL := 13) (ret := (some .boolean)) (by decide) rfl (Nat.le_of_ble_eq_true rfl) ?_
  intro D ka lo hL hlo p e s m below meth c hx hb hr hts hown hml hlk hnm hK H locs ls hz hP hS hl
  have hl : lv_has ls 13 [(0, .ref o), (1, .int g), (2, .int h)] := hl
  have hown : s.vm.findClass RL = some m.cls := hown
  have hoz := hW.oz
  obtain ⟨⟨hB, hN, hKs, hRs⟩, -⟩ := id hY.1
  refine lv_aload_n hx hb dL_reads_0 rfl (lv_at hl 0 rfl) ?_
  refine g_runV (As := []) (rest := []) (own := RL) (C := RX7) (T := TX7) (N := 7) 0 hx hb hml hown hts hK hz hP hL hS hlo hl.1 (c_X7_clearText0 l o b S tf tn P C kp zp σ sz hW hY.1.1) gL_reads_X7_clearText rfl rfl rfl (by decide +kernel) ⟨Nat.le_of_ble_eq_true rfl, Nat.le_of_ble_eq_true rfl⟩ hW.c0 rfl rfl rfl (Nat.le_of_ble_eq_true rfl) dL_reads_1 ⟨Nat.le_of_ble_eq_true rfl, Nat.le_of_ble_eq_true rfl⟩ (g_kxi0 (fun r_1 τ_1 H locs z_1 hz hp hP hL hS => ?_))
  obtain ⟨hr_1, hW, hz_1, ha_1⟩ := hp
  have hz := hz.trans hz_1
  subst hr_1
  refine lv_pop hx hb dL_reads_4 rfl ?_
  refine lv_aload_n hx hb dL_reads_5 rfl (lv_at hl 0 rfl) ?_
  have hff_2 : ffI tf 0 = nI 0 := ff_0 tf
  refine g_runV (As := []) (rest := []) (own := RL) (C := RX7) (T := TX7) (N := 7) 0 hx hb hml hown hts hK hz hP hL hS hlo hl.1 (c_X7_readN l o b S tf 0 P C kp zp τ_1 sz hW hY.1.1 (by rw [hff_2]; exact Int32.not_lt.mpr (nI_pos' (by omega)))) gL_reads_X7_read rfl rfl rfl (by decide +kernel) ⟨Nat.le_of_ble_eq_true rfl, Nat.le_of_ble_eq_true rfl⟩ hW.c0 rfl rfl rfl (Nat.le_of_ble_eq_true rfl) dL_reads_6 ⟨Nat.le_of_ble_eq_true rfl, Nat.le_of_ble_eq_true rfl⟩ (g_kxi0 (fun r_2 τ_2 H locs z_2 hz hp hP hL hS => ?_))
  rw [hff_2] at hp
  obtain ⟨hr_2, hW, hz_2, ha_2⟩ := hp
  have hz := hz.trans hz_2
  subst hr_2
  refine g_top (y := (-100)) mm0 ?_
  refine lv_bipush (v := (-100)) hx hb dL_reads_9 (by decide) ?_
  refine lv_icmp_eq (tgt := 16) hx hb dL_reads_11 (by decide) (fun c11 => ?_) (fun c11 => by first | exact absurd (by decide) c11 | exact absurd c11 (by decide))
  refine lv_iconst (v := (nI 1)) hx hb dL_reads_16 (by decide) ?_
  refine lv_iload_n hx hb dL_reads_17 rfl (lv_at hl 1 rfl) ?_
  refine lv_bipush (v := (nI 7)) hx hb dL_reads_18 (by decide) ?_
  refine g_runS (As := [.int g, .int (nI 7)]) (rest := [.int (nI 1)]) (own := RL) 2 hx hb hml hown hts hK hz hP hL hS hlo hl.1 (c_L_low l g 7 τ_2 sz (by omega) (by omega)) gL_reads_L_low rfl rfl rfl (by decide +kernel) ⟨Nat.le_of_ble_eq_true rfl, Nat.le_of_ble_eq_true rfl⟩ rfl rfl (Nat.le_of_ble_eq_true rfl) dL_reads_20 ⟨Nat.le_of_ble_eq_true rfl, Nat.le_of_ble_eq_true rfl⟩ (g_ki0 (fun H locs hz hP hL hS => ?_))
  obtain ⟨q_3, hq_3⟩ : ∃ q : Nat, q = lowN g 7 := ⟨_, rfl⟩
  have hql_3 : q_3 < 7 := by rw [hq_3]; exact lowN_lt _ (by omega)
  refine g_top (y := (nI q_3)) (by rw [hq_3]) ?_
  refine lv_iadd hx hb dL_reads_23 ?_
  refine g_top (nI_add 1 q_3) ?_
  obtain ⟨nit, hnit⟩ : ∃ x : Nat, x = 1 + q_3 := ⟨_, rfl⟩
  have hn7 : 1 ≤ nit ∧ nit ≤ 7 := by omega
  refine g_top (y := (nI nit)) (by rw [hnit]) ?_
  refine lv_istore_n (lv' := [(3, .int (nI nit)), (0, .ref o), (1, .int g), (2, .int h)]) hx hb dL_reads_24 rfl hl (by decide) rfl (fun ls hl => ?_)
  refine lv_bipush (v := (nI 64)) hx hb dL_reads_25 (by decide) ?_
  refine g_newa hx hb hts hK hz hP hL hS hlo 0 .int (by decide) (by decide +kernel) (n := nI 64) (N := 64) rfl (by omega) (show 0 + 1 ≤ 19 by omega) (show 0 + 64 ≤ 917 by omega) dL_reads_27 (fun H hz hP hL hS => ?_)
  have hlo : lo ≤ sz + 1 := Nat.le_succ_of_le hlo
  obtain ⟨σ4, e4⟩ : ∃ υ0 : gS, υ0 = gup τ_2 sz (gI 64 (fun _ => 0)) := ⟨_, rfl⟩
  have hP : gH D ka σ4 H := by rw [e4]; exact hP
  have hL : gL lo σ4 := by rw [e4]; exact hL
  have hW := hW.fr (τ := σ4) (fun q h1 h2 => gup_eq e4 (by omega))
  have hnz_sz_0 : ¬ gZo o 39 sz := fun h => by have h3 := h.2; omega
  refine lv_astore (lv' := [(4, .ref sz), (3, .int (nI nit)), (0, .ref o), (1, .int g), (2, .int h)]) hx hb dL_reads_29 hl (by decide) rfl (fun ls hl => ?_)
  refine lv_bipush (v := (nI 64)) hx hb dL_reads_31 (by decide) ?_
  refine g_newa hx hb hts hK hz hP hL hS hlo 0 .int (by decide) (by decide +kernel) (n := nI 64) (N := 64) rfl (by omega) (show 0 + 1 + 1 ≤ 19 by omega) (show 0 + 64 + 64 ≤ 917 by omega) dL_reads_33 (fun H hz hP hL hS => ?_)
  have hlo : lo ≤ (sz + 1) + 1 := Nat.le_succ_of_le hlo
  obtain ⟨σ5, e5⟩ : ∃ υ0 : gS, υ0 = gup σ4 (sz + 1) (gI 64 (fun _ => 0)) := ⟨_, rfl⟩
  have hP : gH D ka σ5 H := by rw [e5]; exact hP
  have hL : gL lo σ5 := by rw [e5]; exact hL
  have hW := hW.fr (τ := σ5) (fun q h1 h2 => gup_eq e5 (by omega))
  have hnz_sz_1 : ¬ gZo o 39 (sz + 1) := fun h => by have h3 := h.2; omega
  refine lv_astore (lv' := [(5, .ref (sz + 1)), (4, .ref sz), (3, .int (nI nit)), (0, .ref o), (1, .int g), (2, .int h)]) hx hb dL_reads_35 hl (by decide) rfl (fun ls hl => ?_)
  refine lv_iconst (v := (nI 0)) hx hb dL_reads_37 (by decide) ?_
  refine lv_istore (lv' := [(6, .int (nI 0)), (5, .ref (sz + 1)), (4, .ref sz), (3, .int (nI nit)), (0, .ref o), (1, .int g), (2, .int h)]) hx hb dL_reads_38 hl (by decide) rfl (fun ls hl => ?_)
  refine lv_iconst (v := (nI 0)) hx hb dL_reads_40 (by decide) ?_
  refine lv_istore (lv' := [(7, .int (nI 0)), (6, .int (nI 0)), (5, .ref (sz + 1)), (4, .ref sz), (3, .int (nI nit)), (0, .ref o), (1, .int g), (2, .int h)]) hx hb dL_reads_41 hl (by decide) rfl (fun ls hl => ?_)
  refine lv_iconst (v := (nI 0)) hx hb dL_reads_43 (by decide) ?_
  refine lv_istore (lv' := [(8, .int (nI 0)), (7, .int (nI 0)), (6, .int (nI 0)), (5, .ref (sz + 1)), (4, .ref sz), (3, .int (nI nit)), (0, .ref o), (1, .int g), (2, .int h)]) hx hb dL_reads_44 hl (by decide) rfl (fun ls hl => ?_)
  have lpA : ∀ (fu_lpA : Nat) (k : Nat) (a : Nat) (tx : Nat → Int32) (V : sS), (k ≤ nit) → (LyI (clearS S) tx k a V) → (0 < k → LyX tx a) → (a ≤ 4 * k) → (sB V ≤ 9 * k) → (k ≤ sB V) → (k ≤ a) → (VOk (clearS S) V) → (nit - k < fu_lpA) → ∀ (υ : gS), (Wo υ o b S tx a P C kp zp) → (υ sz = gI 64 (vrow V 0)) → (υ (sz + 1) = gI 64 (vrow V 1)) → gL lo υ → ∀ (H : Heap) (locs : List Loc) (ls : Array Slot), H.size = (sz + 2) → gH D ka υ H → va_S (gA lo) s.heap H locs → lv_has ls 13 [(0, .ref o), (1, .int g), (2, .int h), (3, .int (nI nit)), (4, .ref sz), (5, .ref (sz + 1)), (6, .int (nI (sB V))), (7, .int (nI a)), (8, .int (nI k))] → W p l e ({ frames := 7, cells := 19, slots := 917, locals := 162 } : Room) s m ([.ref o, .int g, .int h] : List Value).toArray below meth c H locs (0 + 1 + 1) (0 + 64 + 64) (MQ below (gQ D ka lo (gxi (fun r τ n => r = nI 1 ∧ ∃ (S2 : sS) (tf2 : Nat → Int32) (tn2 P2 : Nat) (C2 : Nat → sS), Wo τ o b S2 tf2 tn2 P2 C2 kp n ∧ okY S2 ∧ 0 < sB S2 ∧ sN S2 = sN S ∧ okC P2 C2 kp ∧ sz ≤ n ∧ n ≤ sz + 19))) ([.ref o, .int g, .int h] : List Value).toArray s 19 917 (gA lo)) (F0 m 46 ls []) := by
    intro fu_lpA
    induction fu_lpA with
    | zero => intro k a tx V hk hLy hLx ha4k hB9 hBk hak hVk hm_lpA; exact absurd hm_lpA (Nat.not_lt_zero _)
    | succ fu_lpA ih_lpA =>
      intro k a tx V hk hLy hLx ha4k hB9 hBk hak hVk hm_lpA υ hW hA0 hA1 hL H locs ls hz hP hS hl
      refine lv_iload hx hb dL_reads_46 (lv_at hl 8 rfl) ?_
      refine lv_iload_n hx hb dL_reads_48 rfl (lv_at hl 3 rfl) ?_
      refine g_icmp_ge (tgt := 254) (a := k) (b := nit) hx hb (by omega) (by omega) dL_reads_49 (by decide) (fun c49 => ?_) (fun c49 => ?_)
      · have hke : k = nit := by omega
        have hok := rd_ok hLy (show 0 < a by omega) (show a ≤ 60 by omega)
        refine lv_iload hx hb dL_reads_254 (lv_at hl 6 rfl) ?_
        refine lv_bipush (v := (nI 64)) hx hb dL_reads_256 (by decide) ?_
        refine g_icmp_ne (tgt := 263) (a := sB V) (b := 64) hx hb (by omega) (by omega) dL_reads_258 (by decide) (fun c258 => ?_) (fun c258 => False.elim (by omega))
        refine lv_aload_n hx hb dL_reads_263 rfl (lv_at hl 0 rfl) ?_
        refine g_runV (As := []) (rest := []) (own := RL) (C := RX7) (T := TX7) (N := 7) 0 hx hb hml hown hts hK hz hP hL hS hlo hl.1 (c_X7_readY l o b S tx a P C kp zp υ ((sz + 2)) hW hY.1.1 (by omega) hok.1) gL_reads_X7_read rfl rfl rfl (by decide +kernel) ⟨Nat.le_of_ble_eq_true rfl, Nat.le_of_ble_eq_true rfl⟩ hW.c0 rfl rfl rfl (Nat.le_of_ble_eq_true rfl) dL_reads_264 ⟨Nat.le_of_ble_eq_true rfl, Nat.le_of_ble_eq_true rfl⟩ (g_kxi (fun r_6 τ_6 H locs z_6 hz hp hP hL hS => ?_))
        rw [hok.2] at hp
        obtain ⟨hr_6, hW, hzl_6, hzu_6, ha_6⟩ := hp
        have hlo : lo ≤ z_6 := Nat.le_trans hlo hzl_6
        subst hr_6
        have hnr_sz_0 : ¬ Zr o b zp (sz + 2) sz := (fun h => Or.elim h (fun h3 => by have h4 := h3.2; omega) (fun h3 => Or.elim h3 (fun h4 => by have h5 := h4.2; omega) (fun h4 => by have h5 : sz + 1 + 1 ≤ _ := h4; omega)))
        have hnr_sz_1 : ¬ Zr o b zp (sz + 2) (sz + 1) := (fun h => Or.elim h (fun h3 => by have h4 := h3.2; omega) (fun h3 => Or.elim h3 (fun h4 => by have h5 := h4.2; omega) (fun h4 => by have h5 : sz + 1 + 1 ≤ _ := h4; omega)))
        obtain ⟨hVY, hNV, hK0, hM0⟩ := rd_okY hY (show a ≤ 60 by omega) hok.1 hok.2 hVk
        have hoz3 := hW.oz
        refine lv_iload hx hb dL_reads_267 (lv_at hl 6 rfl) ?_
        refine lv_icmp_ne (tgt := 299) hx hb dL_reads_269 (by decide) (fun c269 => absurd rfl c269) (fun c269 => ?_)
        refine lv_aload_n hx hb dL_reads_272 rfl (lv_at hl 0 rfl) ?_
        refine lv_iconst (v := (nI 0)) hx hb dL_reads_273 (by decide) ?_
        refine g_runV (As := [.int (nI 0)]) (rest := []) (own := RL) (C := RX7) (T := TX7) (N := 7) 1 hx hb hml hown hts hK hz hP hL hS hlo hl.1 (c_X7_count l o b V tx a (recP P) (recS C P S) kp z_6 ((nI 0))  τ_6 z_6 hW hVY.1.1 ) gL_reads_X7_count rfl rfl rfl (by decide +kernel) ⟨Nat.le_of_ble_eq_true rfl, Nat.le_of_ble_eq_true rfl⟩ hW.c0 rfl rfl rfl (Nat.le_of_ble_eq_true rfl) dL_reads_274 ⟨Nat.le_of_ble_eq_true rfl, Nat.le_of_ble_eq_true rfl⟩ (g_kxi0 (fun r_7 τ_7 H locs z_7 hz hp hP hL hS => ?_))
        obtain ⟨hr_7, hW, hz_7, ha_7⟩ := hp
        have hz := hz.trans hz_7
        subst hr_7
        refine g_top (y := (nI (sB V))) yc_0 ?_
        refine lv_iload hx hb dL_reads_277 (lv_at hl 6 rfl) ?_
        refine lv_icmp_ne (tgt := 299) hx hb dL_reads_279 (by decide) (fun c279 => absurd rfl c279) (fun c279 => ?_)
        refine lv_aload_n hx hb dL_reads_282 rfl (lv_at hl 0 rfl) ?_
        refine lv_iconst (v := (nI 5)) hx hb dL_reads_283 (by decide) ?_
        refine g_runV (As := [.int (nI 5)]) (rest := []) (own := RL) (C := RX7) (T := TX7) (N := 7) 1 hx hb hml hown hts hK hz hP hL hS hlo hl.1 (c_X7_count l o b V tx a (recP P) (recS C P S) kp z_6 ((nI 5))  τ_7 z_6 hW hVY.1.1 ) gL_reads_X7_count rfl rfl rfl (by decide +kernel) ⟨Nat.le_of_ble_eq_true rfl, Nat.le_of_ble_eq_true rfl⟩ hW.c0 rfl rfl rfl (Nat.le_of_ble_eq_true rfl) dL_reads_284 ⟨Nat.le_of_ble_eq_true rfl, Nat.le_of_ble_eq_true rfl⟩ (g_kxi0 (fun r_8 τ_8 H locs z_8 hz hp hP hL hS => ?_))
        obtain ⟨hr_8, hW, hz_8, ha_8⟩ := hp
        have hz := hz.trans hz_8
        subst hr_8
        refine g_top (y := (nI (sK V))) yc_5 ?_
        refine g_if_ne (tgt := 299) hx hb (by omega) dL_reads_287 (by decide) (fun c287 => False.elim (by omega)) (fun c287 => ?_)
        refine lv_aload_n hx hb dL_reads_290 rfl (lv_at hl 0 rfl) ?_
        refine lv_bipush (v := (nI 6)) hx hb dL_reads_291 (by decide) ?_
        refine g_runV (As := [.int (nI 6)]) (rest := []) (own := RL) (C := RX7) (T := TX7) (N := 7) 1 hx hb hml hown hts hK hz hP hL hS hlo hl.1 (c_X7_count l o b V tx a (recP P) (recS C P S) kp z_6 ((nI 6))  τ_8 z_6 hW hVY.1.1 ) gL_reads_X7_count rfl rfl rfl (by decide +kernel) ⟨Nat.le_of_ble_eq_true rfl, Nat.le_of_ble_eq_true rfl⟩ hW.c0 rfl rfl rfl (Nat.le_of_ble_eq_true rfl) dL_reads_293 ⟨Nat.le_of_ble_eq_true rfl, Nat.le_of_ble_eq_true rfl⟩ (g_kxi0 (fun r_9 τ_9 H locs z_9 hz hp hP hL hS => ?_))
        obtain ⟨hr_9, hW, hz_9, ha_9⟩ := hp
        have hz := hz.trans hz_9
        subst hr_9
        have hmt := mk_le hVY
        refine g_top (y := (nI (suF (fun x => cntF (markB V x) (sB V)) (sN V)))) (yc_6 hVY) ?_
        refine g_if_eq (tgt := 301) hx hb (by omega) dL_reads_296 (by decide) (fun c296 => ?_) (fun c296 => False.elim (by omega))
        refine lv_iconst (v := (nI 0)) hx hb dL_reads_301 (by decide) ?_
        refine lv_istore (lv' := [(8, .int (nI 0)), (0, .ref o), (1, .int g), (2, .int h), (3, .int (nI nit)), (4, .ref sz), (5, .ref (sz + 1)), (6, .int (nI (sB V))), (7, .int (nI a))]) hx hb dL_reads_302 hl (by decide) rfl (fun ls hl => ?_)
        have lpC : ∀ (fu_lpC : Nat) (j : Nat), (j ≤ sB V) → (sB V - j < fu_lpC) → ∀ (υ : gS), (Wo υ o b V tx a (recP P) (recS C P S) kp z_6) → (υ sz = gI 64 (vrow V 0)) → (υ (sz + 1) = gI 64 (vrow V 1)) → gL lo υ → ∀ (H : Heap) (locs : List Loc) (ls : Array Slot), H.size = z_6 → gH D ka υ H → va_S (gA lo) s.heap H locs → lv_has ls 13 [(0, .ref o), (1, .int g), (2, .int h), (3, .int (nI nit)), (4, .ref sz), (5, .ref (sz + 1)), (6, .int (nI (sB V))), (7, .int (nI a)), (8, .int (nI j))] → W p l e ({ frames := 7, cells := 19, slots := 917, locals := 162 } : Room) s m ([.ref o, .int g, .int h] : List Value).toArray below meth c H locs (0 + 1 + 1 + 17) (0 + 64 + 64 + 789) (MQ below (gQ D ka lo (gxi (fun r τ n => r = nI 1 ∧ ∃ (S2 : sS) (tf2 : Nat → Int32) (tn2 P2 : Nat) (C2 : Nat → sS), Wo τ o b S2 tf2 tn2 P2 C2 kp n ∧ okY S2 ∧ 0 < sB S2 ∧ sN S2 = sN S ∧ okC P2 C2 kp ∧ sz ≤ n ∧ n ≤ sz + 19))) ([.ref o, .int g, .int h] : List Value).toArray s 19 917 (gA lo)) (F0 m 304 ls []) := by
          intro fu_lpC
          induction fu_lpC with
          | zero => intro j hj hm_lpC; exact absurd hm_lpC (Nat.not_lt_zero _)
          | succ fu_lpC ih_lpC =>
            intro j hj hm_lpC υ hW hA0 hA1 hL H locs ls hz hP hS hl
            refine lv_iload hx hb dL_reads_304 (lv_at hl 8 rfl) ?_
            refine lv_iload hx hb dL_reads_306 (lv_at hl 6 rfl) ?_
            refine g_icmp_ge (tgt := 349) (a := j) (b := sB V) hx hb (by omega) (by omega) dL_reads_308 (by decide) (fun c308 => ?_) (fun c308 => ?_)
            · refine lv_aload_n hx hb dL_reads_349 rfl (lv_at hl 0 rfl) ?_
              refine lv_bipush (v := (nI 120)) hx hb dL_reads_350 (by decide) ?_
              refine g_runV (As := [.int (nI 120)]) (rest := []) (own := RL) (C := RX7) (T := TX7) (N := 7) 1 hx hb hml hown hts hK hz hP hL hS hlo hl.1 (c_X7_type0 l o b V tx a (recP P) (recS C P S) kp z_6 ((nI 120)) υ z_6 hW hVY.1.1) gL_reads_X7_type rfl rfl rfl (by decide +kernel) ⟨Nat.le_of_ble_eq_true rfl, Nat.le_of_ble_eq_true rfl⟩ hW.c0 rfl rfl rfl (Nat.le_of_ble_eq_true rfl) dL_reads_352 ⟨Nat.le_of_ble_eq_true rfl, Nat.le_of_ble_eq_true rfl⟩ (g_kxi0 (fun r_10 τ_10 H locs z_10 hz hp hP hL hS => ?_))
              simp only [if_pos (show a < 60 by omega)] at hp
              obtain ⟨hr_10, hW, hz_10, ha_10⟩ := hp
              have hz := hz.trans hz_10
              subst hr_10
              refine lv_istore (lv' := [(7, .int (nI (a + 1))), (0, .ref o), (1, .int g), (2, .int h), (3, .int (nI nit)), (4, .ref sz), (5, .ref (sz + 1)), (6, .int (nI (sB V))), (8, .int (nI j))]) hx hb dL_reads_355 hl (by decide) rfl (fun ls hl => ?_)
              refine lv_aload_n hx hb dL_reads_357 rfl (lv_at hl 1 rfl) ?_
              refine lv_bipush (v := (nI 120)) hx hb dL_reads_358 (by decide) ?_
              refine g_runV (As := [.int (nI 120)]) (rest := []) (own := RL) (C := RX7) (T := TX7) (N := 7) 1 hx hb hml hown hts hK hz hP hL hS hlo hl.1 (c_X7_type0 l o b V (upd tx a ((nI 120))) (a + 1) (recP P) (recS C P S) kp z_6 ((nI 120)) τ_10 z_6 hW hVY.1.1) gL_reads_X7_type rfl rfl rfl (by decide +kernel) ⟨Nat.le_of_ble_eq_true rfl, Nat.le_of_ble_eq_true rfl⟩ hW.c0 rfl rfl rfl (Nat.le_of_ble_eq_true rfl) dL_reads_360 ⟨Nat.le_of_ble_eq_true rfl, Nat.le_of_ble_eq_true rfl⟩ (g_kxi0 (fun r_11 τ_11 H locs z_11 hz hp hP hL hS => ?_))
              simp only [if_pos (show (a + 1) < 60 by omega)] at hp
              obtain ⟨hr_11, hW, hz_11, ha_11⟩ := hp
              have hz := hz.trans hz_11
              subst hr_11
              refine lv_istore (lv' := [(7, .int (nI (a + 1 + 1))), (0, .ref o), (1, .int g), (2, .int h), (3, .int (nI nit)), (4, .ref sz), (5, .ref (sz + 1)), (6, .int (nI (sB V))), (8, .int (nI j))]) hx hb dL_reads_363 hl (by decide) rfl (fun ls hl => ?_)
              refine lv_aload_n hx hb dL_reads_365 rfl (lv_at hl 1 rfl) ?_
              obtain ⟨p, hxe, hp1, hp2⟩ := hLx (by omega) (upd (upd tx a ((nI 120))) (a + 1) ((nI 120))) (fun j hj => by rw [upd_lt (by omega), upd_lt hj]) (by rw [upd_lt (by omega), upd_s]) (by rw [upd_s]) (by omega)
              have hff_12 : ffI (upd (upd tx a ((nI 120))) (a + 1) ((nI 120))) (a + 1 + 1) = nI p := hxe
              refine g_runV (As := []) (rest := []) (own := RL) (C := RX7) (T := TX7) (N := 7) 0 hx hb hml hown hts hK hz hP hL hS hlo hl.1 (c_X7_readN l o b V (upd (upd tx a ((nI 120))) (a + 1) ((nI 120))) (a + 1 + 1) (recP P) (recS C P S) kp z_6 τ_11 z_6 hW hVY.1.1 (by rw [hff_12]; exact Int32.not_lt.mpr (nI_pos' (by omega)))) gL_reads_X7_read rfl rfl rfl (by decide +kernel) ⟨Nat.le_of_ble_eq_true rfl, Nat.le_of_ble_eq_true rfl⟩ hW.c0 rfl rfl rfl (Nat.le_of_ble_eq_true rfl) dL_reads_366 ⟨Nat.le_of_ble_eq_true rfl, Nat.le_of_ble_eq_true rfl⟩ (g_kxi0 (fun r_12 τ_12 H locs z_12 hz hp hP hL hS => ?_))
              rw [hff_12] at hp
              obtain ⟨hr_12, hW, hz_12, ha_12⟩ := hp
              have hz := hz.trans hz_12
              subst hr_12
              refine lv_bipush (v := (-99)) hx hb dL_reads_369 (by decide) ?_
              refine lv_iload hx hb dL_reads_371 (lv_at hl 0 rfl) ?_
              refine lv_isub hx hb dL_reads_373 ?_
              refine lv_iconst (v := (nI 1)) hx hb dL_reads_374 (by decide) ?_
              refine lv_iadd hx hb dL_reads_375 ?_
              refine lv_icmp_gt (tgt := 393) hx hb dL_reads_376 (by decide) (fun c376 => absurd c376 (m100 a (by omega) p (by omega) hp1)) (fun c376 => ?_)
              refine lv_aload_n hx hb dL_reads_379 rfl (lv_at hl 1 rfl) ?_
              refine lv_iconst (v := (nI 0)) hx hb dL_reads_380 (by decide) ?_
              refine g_runV (As := [.int (nI 0)]) (rest := []) (own := RL) (C := RX7) (T := TX7) (N := 7) 1 hx hb hml hown hts hK hz hP hL hS hlo hl.1 (c_X7_count l o b V (upd (upd tx a ((nI 120))) (a + 1) ((nI 120))) (a + 1 + 1) (recP P) (recS C P S) kp z_6 ((nI 0))  τ_12 z_6 hW hVY.1.1 ) gL_reads_X7_count rfl rfl rfl (by decide +kernel) ⟨Nat.le_of_ble_eq_true rfl, Nat.le_of_ble_eq_true rfl⟩ hW.c0 rfl rfl rfl (Nat.le_of_ble_eq_true rfl) dL_reads_381 ⟨Nat.le_of_ble_eq_true rfl, Nat.le_of_ble_eq_true rfl⟩ (g_kxi0 (fun r_13 τ_13 H locs z_13 hz hp hP hL hS => ?_))
              obtain ⟨hr_13, hW, hz_13, ha_13⟩ := hp
              have hz := hz.trans hz_13
              subst hr_13
              refine g_top (y := (nI (sB V))) yc_0 ?_
              refine lv_iload hx hb dL_reads_384 (lv_at hl 7 rfl) ?_
              refine lv_icmp_ne (tgt := 393) hx hb dL_reads_386 (by decide) (fun c386 => absurd rfl c386) (fun c386 => ?_)
              refine lv_iconst (v := (nI 1)) hx hb dL_reads_389 (by decide) ?_
              refine lv_goto (tgt := 394) hx hb dL_reads_390 (by decide) ?_
              refine W.widen (k := 19) (n := 917) (by omega) (by omega) ?_
              exact g_zret (z := z_6) hx hb hr hlk hz hP hL hS rfl dL_reads_394 (gxi_i ⟨rfl, V, _, _, _, _, hW.up (by omega), hVY, by omega, hNV, hC.act hY.1.1 (by omega), by omega, by omega⟩)
            · have hjl : j < sB V := by omega
              refine lv_aload_n hx hb dL_reads_311 rfl (lv_at hl 0 rfl) ?_
              refine lv_iload hx hb dL_reads_312 (lv_at hl 8 rfl) ?_
              refine lv_iconst (v := (nI 0)) hx hb dL_reads_314 (by decide) ?_
              refine g_runV (As := [.int (nI j), .int (nI 0)]) (rest := []) (own := RL) (C := RX7) (T := TX7) (N := 7) 2 hx hb hml hown hts hK hz hP hL hS hlo hl.1 (c_X7_beat l o b V tx a (recP P) (recS C P S) kp z_6 ((nI j)) ((nI 0))  υ z_6 hW hVY.1.1 ) gL_reads_X7_beat rfl rfl rfl (by decide +kernel) ⟨Nat.le_of_ble_eq_true rfl, Nat.le_of_ble_eq_true rfl⟩ hW.c0 rfl rfl rfl (Nat.le_of_ble_eq_true rfl) dL_reads_315 ⟨Nat.le_of_ble_eq_true rfl, Nat.le_of_ble_eq_true rfl⟩ (g_kxi0 (fun r_14 τ_14 H locs z_14 hz hp hP hL hS => ?_))
              obtain ⟨hr_14, hW, hz_14, ha_14⟩ := hp
              have hz := hz.trans hz_14
              subst hr_14
              have hxso := hVY.so (b := j) (by omega)
              refine g_top (y := (nI (tk (V 0 j)))) (yb_0 hVY (by omega)) ?_
              refine lv_aload hx hb dL_reads_318 (lv_at hl 4 rfl) ?_
              refine lv_iload hx hb dL_reads_320 (lv_at hl 8 rfl) ?_
              refine g_iald hx hb hK hP ((ha_14 _ hnz_sz_0).trans hA0) (i := nI j) (vp_in_nI (by omega) (by omega)) dL_reads_322 ?_
              rw [nI_clamp (n := j) (by omega)]
              refine g_top (y := (nI (tk (V 0 j)))) ((if_pos hjl).trans (hVY.so hjl).1) ?_
              refine lv_icmp_ne (tgt := 341) hx hb dL_reads_323 (by decide) (fun c323 => absurd rfl c323) (fun c323 => ?_)
              refine lv_aload_n hx hb dL_reads_326 rfl (lv_at hl 0 rfl) ?_
              refine lv_iload hx hb dL_reads_327 (lv_at hl 8 rfl) ?_
              refine lv_iconst (v := (nI 1)) hx hb dL_reads_329 (by decide) ?_
              refine g_runV (As := [.int (nI j), .int (nI 1)]) (rest := []) (own := RL) (C := RX7) (T := TX7) (N := 7) 2 hx hb hml hown hts hK hz hP hL hS hlo hl.1 (c_X7_beat l o b V tx a (recP P) (recS C P S) kp z_6 ((nI j)) ((nI 1))  τ_14 z_6 hW hVY.1.1 ) gL_reads_X7_beat rfl rfl rfl (by decide +kernel) ⟨Nat.le_of_ble_eq_true rfl, Nat.le_of_ble_eq_true rfl⟩ hW.c0 rfl rfl rfl (Nat.le_of_ble_eq_true rfl) dL_reads_330 ⟨Nat.le_of_ble_eq_true rfl, Nat.le_of_ble_eq_true rfl⟩ (g_kxi0 (fun r_15 τ_15 H locs z_15 hz hp hP hL hS => ?_))
              obtain ⟨hr_15, hW, hz_15, ha_15⟩ := hp
              have hz := hz.trans hz_15
              subst hr_15
              have hxlo := hVY.lo (b := j) (by omega)
              refine g_top (y := (nI (tk (V 1 j)))) (yb_1 hVY (by omega)) ?_
              refine lv_aload hx hb dL_reads_333 (lv_at hl 5 rfl) ?_
              refine lv_iload hx hb dL_reads_335 (lv_at hl 8 rfl) ?_
              refine g_iald hx hb hK hP ((ha_15 _ hnz_sz_1).trans ((ha_14 _ hnz_sz_1).trans hA1)) (i := nI j) (vp_in_nI (by omega) (by omega)) dL_reads_337 ?_
              rw [nI_clamp (n := j) (by omega)]
              refine g_top (y := (nI (tk (V 1 j)))) ((if_pos hjl).trans (hVY.lo hjl).1) ?_
              refine lv_icmp_eq (tgt := 343) hx hb dL_reads_338 (by decide) (fun c338 => ?_) (fun c338 => absurd rfl c338)
              refine lv_iinc (v := (nI (j + 1))) (lv' := [(8, .int (nI (j + 1))), (0, .ref o), (1, .int g), (2, .int h), (3, .int (nI nit)), (4, .ref sz), (5, .ref (sz + 1)), (6, .int (nI (sB V))), (7, .int (nI a))]) hx hb dL_reads_343 hl (k := 8) rfl (g_inc j 1) (by decide) rfl (fun ls hl => ?_)
              refine lv_goto (tgt := 304) hx hb dL_reads_346 (by decide) ?_
              exact ih_lpC (j + 1) (by omega) (by omega) τ_15 hW ((ha_15 _ hnz_sz_0).trans ((ha_14 _ hnz_sz_0).trans hA0)) ((ha_15 _ hnz_sz_1).trans ((ha_14 _ hnz_sz_1).trans hA1)) hL H locs ls hz hP hS (lv_sub hl [1, 2, 3, 4, 5, 6, 7, 8, 0] rfl)
        exact lpC _ 0 (by omega) (Nat.lt_succ_self _) τ_9 hW ((ha_9 _ hnz_sz_0).trans ((ha_8 _ hnz_sz_0).trans ((ha_7 _ hnz_sz_0).trans ((ha_6 _ hnr_sz_0).trans hA0)))) ((ha_9 _ hnz_sz_1).trans ((ha_8 _ hnz_sz_1).trans ((ha_7 _ hnz_sz_1).trans ((ha_6 _ hnr_sz_1).trans hA1)))) hL H locs ls hz hP hS (lv_sub hl [1, 2, 3, 4, 5, 6, 7, 8, 0] rfl)
      · have hkl : k < nit := by omega
        have hcs : sB (clearS S) = 0 := rfl
        refine lv_iload_n hx hb dL_reads_52 rfl (lv_at hl 1 rfl) ?_
        refine lv_iconst (v := (nI 2)) hx hb dL_reads_53 (by decide) ?_
        refine lv_iload hx hb dL_reads_54 (lv_at hl 8 rfl) ?_
        refine lv_iadd hx hb dL_reads_56 ?_
        refine g_top (nI_add 2 k) ?_
        refine lv_ishr hx hb dL_reads_57 ?_
        refine lv_iconst (v := (nI 3)) hx hb dL_reads_58 (by decide) ?_
        refine g_runS (As := [.int (g >>> ((nI (2 + k)) &&& 31)), .int (nI 3)]) (rest := []) (own := RL) 2 hx hb hml hown hts hK hz hP hL hS hlo hl.1 (c_L_low l ((g >>> ((nI (2 + k)) &&& 31))) 3 υ ((sz + 2)) (by omega) (by omega)) gL_reads_L_low rfl rfl rfl (by decide +kernel) ⟨Nat.le_of_ble_eq_true rfl, Nat.le_of_ble_eq_true rfl⟩ rfl rfl (Nat.le_of_ble_eq_true rfl) dL_reads_59 ⟨Nat.le_of_ble_eq_true rfl, Nat.le_of_ble_eq_true rfl⟩ (g_ki0 (fun H locs hz hP hL hS => ?_))
        obtain ⟨q_16, hq_16⟩ : ∃ q : Nat, q = lowN ((g >>> ((nI (2 + k)) &&& 31))) 3 := ⟨_, rfl⟩
        have hql_16 : q_16 < 3 := by rw [hq_16]; exact lowN_lt _ (by omega)
        refine g_top (y := (nI q_16)) (by rw [hq_16]) ?_
        refine lv_istore (lv' := [(9, .int (nI q_16)), (0, .ref o), (1, .int g), (2, .int h), (3, .int (nI nit)), (4, .ref sz), (5, .ref (sz + 1)), (6, .int (nI (sB V))), (7, .int (nI a)), (8, .int (nI k))]) hx hb dL_reads_62 hl (by decide) rfl (fun ls hl => ?_)
        refine lv_iload_n hx hb dL_reads_64 rfl (lv_at hl 3 rfl) ?_
        refine lv_iload hx hb dL_reads_65 (lv_at hl 9 rfl) ?_
        refine lv_ishr hx hb dL_reads_67 ?_
        refine lv_bipush (v := (nI 6)) hx hb dL_reads_68 (by decide) ?_
        refine g_runS (As := [.int (h >>> ((nI k) &&& 31)), .int (nI 6)]) (rest := []) (own := RL) 2 hx hb hml hown hts hK hz hP hL hS hlo hl.1 (c_L_low l ((h >>> ((nI k) &&& 31))) 6 υ ((sz + 2)) (by omega) (by omega)) gL_reads_L_low rfl rfl rfl (by decide +kernel) ⟨Nat.le_of_ble_eq_true rfl, Nat.le_of_ble_eq_true rfl⟩ rfl rfl (Nat.le_of_ble_eq_true rfl) dL_reads_70 ⟨Nat.le_of_ble_eq_true rfl, Nat.le_of_ble_eq_true rfl⟩ (g_ki0 (fun H locs hz hP hL hS => ?_))
        obtain ⟨q_17, hq_17⟩ : ∃ q : Nat, q = lowN ((h >>> ((nI k) &&& 31))) 6 := ⟨_, rfl⟩
        have hql_17 : q_17 < 6 := by rw [hq_17]; exact lowN_lt _ (by omega)
        refine g_top (y := (nI q_17)) (by rw [hq_17]) ?_
        refine lv_istore (lv' := [(10, .int (nI q_17)), (9, .int (nI q_16)), (0, .ref o), (1, .int g), (2, .int h), (3, .int (nI nit)), (4, .ref sz), (5, .ref (sz + 1)), (6, .int (nI (sB V))), (7, .int (nI a)), (8, .int (nI k))]) hx hb dL_reads_73 hl (by decide) rfl (fun ls hl => ?_)
        obtain ⟨its, hie⟩ : ∃ x : Nat, x = q_16 := ⟨_, rfl⟩
        obtain ⟨fo, hfe⟩ : ∃ x : Nat, x = q_17 := ⟨_, rfl⟩
        rw [← hie, ← hfe] at hl
        have hits : its < 3 := by omega
        have hfo : fo ≤ 5 := by omega
        have jr4 : ∀ (ti : Nat) (a4 : Nat) (a5 : Nat) (t5 : Nat → Int32) (υ : gS), (∀ j, j < a → t5 j = tx j) → (ItA t5 a its fo ti a4 a5) → (Wo υ o b S t5 a5 P C kp zp) → (υ sz = gI 64 (vrow V 0)) → (υ (sz + 1) = gI 64 (vrow V 1)) → gL lo υ → ∀ (H : Heap) (locs : List Loc) (ls : Array Slot), H.size = (sz + 2) → gH D ka υ H → va_S (gA lo) s.heap H locs → lv_has ls 13 [(0, .ref o), (1, .int g), (2, .int h), (3, .int (nI nit)), (4, .ref sz), (5, .ref (sz + 1)), (6, .int (nI (sB V))), (7, .int (nI a5)), (8, .int (nI k)), (9, .int (nI its)), (10, .int (nI fo)), (11, .int (nI ti))] → W p l e ({ frames := 7, cells := 19, slots := 917, locals := 162 } : Room) s m ([.ref o, .int g, .int h] : List Value).toArray below meth c H locs (0 + 1 + 1) (0 + 64 + 64) (MQ below (gQ D ka lo (gxi (fun r τ n => r = nI 1 ∧ ∃ (S2 : sS) (tf2 : Nat → Int32) (tn2 P2 : Nat) (C2 : Nat → sS), Wo τ o b S2 tf2 tn2 P2 C2 kp n ∧ okY S2 ∧ 0 < sB S2 ∧ sN S2 = sN S ∧ okC P2 C2 kp ∧ sz ≤ n ∧ n ≤ sz + 19))) ([.ref o, .int g, .int h] : List Value).toArray s 19 917 (gA lo)) (F0 m 194 ls []) := by
          intro ti a4 a5 t5 υ hag5 hit hW hA0 hA1 hL H locs ls hz hP hS hl
          have hitl := hit.lt
          have hB5 : sB V + ti ≤ 96 := by omega
          have hLy5 := hLy.step hag5 hit (by omega) hB5
          have hLx5 := LyX.step hLy hag5 hit (by omega) hB5
          have hV5 := hVk.it (fo := fo) (ti := ti) hits hfo (by omega)
          have eB5 := appF_B V (nI its) (loN its fo) ti (by omega)
          refine lv_iconst (v := (nI 0)) hx hb dL_reads_194 (by decide) ?_
          refine lv_istore (lv' := [(12, .int (nI 0)), (0, .ref o), (1, .int g), (2, .int h), (3, .int (nI nit)), (4, .ref sz), (5, .ref (sz + 1)), (6, .int (nI (sB V))), (7, .int (nI a5)), (8, .int (nI k)), (9, .int (nI its)), (10, .int (nI fo)), (11, .int (nI ti))]) hx hb dL_reads_195 hl (by decide) rfl (fun ls hl => ?_)
          have lpB : ∀ (fu_lpB : Nat) (i : Nat), (i ≤ ti) → (ti - i < fu_lpB) → ∀ (υ : gS), (Wo υ o b S t5 a5 P C kp zp) → (υ sz = gI 64 (vrow (appF V (nI its) (loN its fo) i) 0)) → (υ (sz + 1) = gI 64 (vrow (appF V (nI its) (loN its fo) i) 1)) → gL lo υ → ∀ (H : Heap) (locs : List Loc) (ls : Array Slot), H.size = (sz + 2) → gH D ka υ H → va_S (gA lo) s.heap H locs → lv_has ls 13 [(0, .ref o), (1, .int g), (2, .int h), (3, .int (nI nit)), (4, .ref sz), (5, .ref (sz + 1)), (6, .int (nI (sB V + i))), (7, .int (nI a5)), (8, .int (nI k)), (9, .int (nI its)), (10, .int (nI fo)), (11, .int (nI ti)), (12, .int (nI i))] → W p l e ({ frames := 7, cells := 19, slots := 917, locals := 162 } : Room) s m ([.ref o, .int g, .int h] : List Value).toArray below meth c H locs (0 + 1 + 1) (0 + 64 + 64) (MQ below (gQ D ka lo (gxi (fun r τ n => r = nI 1 ∧ ∃ (S2 : sS) (tf2 : Nat → Int32) (tn2 P2 : Nat) (C2 : Nat → sS), Wo τ o b S2 tf2 tn2 P2 C2 kp n ∧ okY S2 ∧ 0 < sB S2 ∧ sN S2 = sN S ∧ okC P2 C2 kp ∧ sz ≤ n ∧ n ≤ sz + 19))) ([.ref o, .int g, .int h] : List Value).toArray s 19 917 (gA lo)) (F0 m 197 ls []) := by
            intro fu_lpB
            induction fu_lpB with
            | zero => intro i hi hm_lpB; exact absurd hm_lpB (Nat.not_lt_zero _)
            | succ fu_lpB ih_lpB =>
              intro i hi hm_lpB υ hW hA0 hA1 hL H locs ls hz hP hS hl
              refine lv_iload hx hb dL_reads_197 (lv_at hl 12 rfl) ?_
              refine lv_iload hx hb dL_reads_199 (lv_at hl 11 rfl) ?_
              refine g_icmp_ge (tgt := 248) (a := i) (b := ti) hx hb (by omega) (by omega) dL_reads_201 (by decide) (fun c201 => ?_) (fun c201 => ?_)
              · have hie2 : i = ti := by omega
                rw [hie2] at hl
                have hB0 : υ sz = gI 64 (vrow (appF V (nI its) (loN its fo) ti) 0) := by rw [← hie2]; exact hA0
                have hB1 : υ (sz + 1) = gI 64 (vrow (appF V (nI its) (loN its fo) ti) 1) := by rw [← hie2]; exact hA1
                refine lv_iinc (v := (nI (k + 1))) (lv' := [(8, .int (nI (k + 1))), (0, .ref o), (1, .int g), (2, .int h), (3, .int (nI nit)), (4, .ref sz), (5, .ref (sz + 1)), (6, .int (nI (sB V + ti))), (7, .int (nI a5)), (9, .int (nI its)), (10, .int (nI fo)), (11, .int (nI ti)), (12, .int (nI ti))]) hx hb dL_reads_248 hl (k := 8) rfl (g_inc k 1) (by decide) rfl (fun ls hl => ?_)
                refine lv_goto (tgt := 46) hx hb dL_reads_251 (by decide) ?_
                have e_6 : (nI (sB V + ti)) = (nI (sB ((appF V (nI its) (loN its fo) ti)))) := (congrArg nI eB5.symm)
                have hl := lv_sub hl (l' := [(0, .ref o), (1, .int g), (2, .int h), (3, .int (nI nit)), (4, .ref sz), (5, .ref (sz + 1)), (6, .int (nI (sB V + ti))), (7, .int (nI a5)), (8, .int (nI (k + 1)))]) [1, 2, 3, 4, 5, 6, 7, 8, 0] rfl
                rw [e_6] at hl
                exact ih_lpA (k + 1) a5 t5 ((appF V (nI its) (loN its fo) ti)) (by omega) hLy5 (fun _ => hLx5) (by omega) (by omega) (by omega) (by omega) hV5 (by omega) υ hW hB0 hB1 hL H locs ls hz hP hS hl
              · refine lv_iload hx hb dL_reads_204 (lv_at hl 6 rfl) ?_
                refine lv_bipush (v := (nI 64)) hx hb dL_reads_206 (by decide) ?_
                refine g_icmp_ge (tgt := 248) (a := sB V + i) (b := 64) hx hb (by omega) (by omega) dL_reads_208 (by decide) (fun c208 => False.elim (by omega)) (fun c208 => ?_)
                refine lv_aload hx hb dL_reads_211 (lv_at hl 4 rfl) ?_
                refine lv_iload hx hb dL_reads_213 (lv_at hl 6 rfl) ?_
                refine lv_iload hx hb dL_reads_215 (lv_at hl 9 rfl) ?_
                refine g_iast hx hb hK hP hL hS hA0 (i := nI (sB V + i)) (vp_in_nI (by omega) (by omega)) dL_reads_217 (fun H locs hq hP hL hS => ?_)
                rw [nI_clamp (n := sB V + i) (by omega)] at hP hL
                have hz := hq.trans hz
                obtain ⟨σ18, e18⟩ : ∃ υ0 : gS, υ0 = gup υ sz (gI 64 (upd (vrow (appF V (nI its) (loN its fo) i) 0) (sB V + i) ((nI its)))) := ⟨_, rfl⟩
                have hP : gH D ka σ18 H := by rw [e18]; exact hP
                have hL : gL lo σ18 := by rw [e18]; exact hL
                have hW := hW.fr (τ := σ18) (fun q h1 h2 => gup_eq e18 (by omega))
                refine lv_aload hx hb dL_reads_218 (lv_at hl 5 rfl) ?_
                refine lv_iload hx hb dL_reads_220 (lv_at hl 6 rfl) ?_
                refine lv_iload hx hb dL_reads_222 (lv_at hl 9 rfl) ?_
                refine g_if_le (tgt := 237) hx hb (by omega) dL_reads_224 (by decide) (fun c224 => ?_) (fun c224 => ?_)
                · refine lv_iconst (v := (nI 2)) hx hb dL_reads_237 (by decide) ?_
                  refine g_top (y := (loN its fo)) (by rw [loN, if_neg (by omega)]) ?_
                  refine g_iast hx hb hK hP hL hS (gup_off e18 (ad_1 1 (by decide)) hA1) (i := nI (sB V + i)) (vp_in_nI (by omega) (by omega)) dL_reads_238 (fun H locs hq hP hL hS => ?_)
                  rw [nI_clamp (n := sB V + i) (by omega)] at hP hL
                  have hz := hq.trans hz
                  obtain ⟨σ19, e19⟩ : ∃ υ0 : gS, υ0 = gup σ18 (sz + 1) (gI 64 (upd (vrow (appF V (nI its) (loN its fo) i) 1) (sB V + i) ((loN its fo)))) := ⟨_, rfl⟩
                  have hP : gH D ka σ19 H := by rw [e19]; exact hP
                  have hL : gL lo σ19 := by rw [e19]; exact hL
                  have hW := hW.fr (τ := σ19) (fun q h1 h2 => gup_eq e19 (by omega))
                  refine lv_iinc (v := (nI (sB V + i + 1))) (lv' := [(6, .int (nI (sB V + i + 1))), (0, .ref o), (1, .int g), (2, .int h), (3, .int (nI nit)), (4, .ref sz), (5, .ref (sz + 1)), (7, .int (nI a5)), (8, .int (nI k)), (9, .int (nI its)), (10, .int (nI fo)), (11, .int (nI ti)), (12, .int (nI i))]) hx hb dL_reads_239 hl (k := 6) rfl (g_inc (sB V + i) 1) (by decide) rfl (fun ls hl => ?_)
                  refine lv_iinc (v := (nI (i + 1))) (lv' := [(12, .int (nI (i + 1))), (6, .int (nI (sB V + i + 1))), (0, .ref o), (1, .int g), (2, .int h), (3, .int (nI nit)), (4, .ref sz), (5, .ref (sz + 1)), (7, .int (nI a5)), (8, .int (nI k)), (9, .int (nI its)), (10, .int (nI fo)), (11, .int (nI ti))]) hx hb dL_reads_242 hl (k := 12) rfl (g_inc i 1) (by decide) rfl (fun ls hl => ?_)
                  refine lv_goto (tgt := 197) hx hb dL_reads_245 (by decide) ?_
                  have e_6 : (nI (sB V + i + 1)) = (nI (sB V + (i + 1))) := (congrArg nI (by omega))
                  have hl := lv_sub hl (l' := [(0, .ref o), (1, .int g), (2, .int h), (3, .int (nI nit)), (4, .ref sz), (5, .ref (sz + 1)), (6, .int (nI (sB V + i + 1))), (7, .int (nI a5)), (8, .int (nI k)), (9, .int (nI its)), (10, .int (nI fo)), (11, .int (nI ti)), (12, .int (nI (i + 1)))]) [2, 3, 4, 5, 6, 7, 1, 8, 9, 10, 11, 12, 0] rfl
                  rw [e_6] at hl
                  exact ih_lpB (i + 1) (by omega) (by omega) σ19 hW (by rw [← vrow_s0 (by omega)]; exact (gup_off e19 (ad_0 1 (by decide)) (gup_here e18))) (by rw [← vrow_s1 (by omega)]; exact (gup_here e19)) hL H locs ls hz hP hS hl
                · refine lv_iload hx hb dL_reads_227 (lv_at hl 10 rfl) ?_
                  refine g_if_le (tgt := 237) hx hb (by omega) dL_reads_229 (by decide) (fun c229 => ?_) (fun c229 => ?_)
                  · refine lv_iconst (v := (nI 2)) hx hb dL_reads_237 (by decide) ?_
                    refine g_top (y := (loN its fo)) (by rw [loN, if_neg (by omega)]) ?_
                    refine g_iast hx hb hK hP hL hS (gup_off e18 (ad_1 1 (by decide)) hA1) (i := nI (sB V + i)) (vp_in_nI (by omega) (by omega)) dL_reads_238 (fun H locs hq hP hL hS => ?_)
                    rw [nI_clamp (n := sB V + i) (by omega)] at hP hL
                    have hz := hq.trans hz
                    obtain ⟨σ20, e20⟩ : ∃ υ0 : gS, υ0 = gup σ18 (sz + 1) (gI 64 (upd (vrow (appF V (nI its) (loN its fo) i) 1) (sB V + i) ((loN its fo)))) := ⟨_, rfl⟩
                    have hP : gH D ka σ20 H := by rw [e20]; exact hP
                    have hL : gL lo σ20 := by rw [e20]; exact hL
                    have hW := hW.fr (τ := σ20) (fun q h1 h2 => gup_eq e20 (by omega))
                    refine lv_iinc (v := (nI (sB V + i + 1))) (lv' := [(6, .int (nI (sB V + i + 1))), (0, .ref o), (1, .int g), (2, .int h), (3, .int (nI nit)), (4, .ref sz), (5, .ref (sz + 1)), (7, .int (nI a5)), (8, .int (nI k)), (9, .int (nI its)), (10, .int (nI fo)), (11, .int (nI ti)), (12, .int (nI i))]) hx hb dL_reads_239 hl (k := 6) rfl (g_inc (sB V + i) 1) (by decide) rfl (fun ls hl => ?_)
                    refine lv_iinc (v := (nI (i + 1))) (lv' := [(12, .int (nI (i + 1))), (6, .int (nI (sB V + i + 1))), (0, .ref o), (1, .int g), (2, .int h), (3, .int (nI nit)), (4, .ref sz), (5, .ref (sz + 1)), (7, .int (nI a5)), (8, .int (nI k)), (9, .int (nI its)), (10, .int (nI fo)), (11, .int (nI ti))]) hx hb dL_reads_242 hl (k := 12) rfl (g_inc i 1) (by decide) rfl (fun ls hl => ?_)
                    refine lv_goto (tgt := 197) hx hb dL_reads_245 (by decide) ?_
                    have e_6 : (nI (sB V + i + 1)) = (nI (sB V + (i + 1))) := (congrArg nI (by omega))
                    have hl := lv_sub hl (l' := [(0, .ref o), (1, .int g), (2, .int h), (3, .int (nI nit)), (4, .ref sz), (5, .ref (sz + 1)), (6, .int (nI (sB V + i + 1))), (7, .int (nI a5)), (8, .int (nI k)), (9, .int (nI its)), (10, .int (nI fo)), (11, .int (nI ti)), (12, .int (nI (i + 1)))]) [2, 3, 4, 5, 6, 7, 1, 8, 9, 10, 11, 12, 0] rfl
                    rw [e_6] at hl
                    exact ih_lpB (i + 1) (by omega) (by omega) σ20 hW (by rw [← vrow_s0 (by omega)]; exact (gup_off e20 (ad_0 1 (by decide)) (gup_here e18))) (by rw [← vrow_s1 (by omega)]; exact (gup_here e20)) hL H locs ls hz hP hS hl
                  · refine lv_iload hx hb dL_reads_232 (lv_at hl 10 rfl) ?_
                    refine lv_goto (tgt := 238) hx hb dL_reads_234 (by decide) ?_
                    refine g_top (y := (loN its fo)) (by rw [loN, if_pos ⟨by omega, by omega⟩]) ?_
                    refine g_iast hx hb hK hP hL hS (gup_off e18 (ad_1 1 (by decide)) hA1) (i := nI (sB V + i)) (vp_in_nI (by omega) (by omega)) dL_reads_238 (fun H locs hq hP hL hS => ?_)
                    rw [nI_clamp (n := sB V + i) (by omega)] at hP hL
                    have hz := hq.trans hz
                    obtain ⟨σ21, e21⟩ : ∃ υ0 : gS, υ0 = gup σ18 (sz + 1) (gI 64 (upd (vrow (appF V (nI its) (loN its fo) i) 1) (sB V + i) ((loN its fo)))) := ⟨_, rfl⟩
                    have hP : gH D ka σ21 H := by rw [e21]; exact hP
                    have hL : gL lo σ21 := by rw [e21]; exact hL
                    have hW := hW.fr (τ := σ21) (fun q h1 h2 => gup_eq e21 (by omega))
                    refine lv_iinc (v := (nI (sB V + i + 1))) (lv' := [(6, .int (nI (sB V + i + 1))), (0, .ref o), (1, .int g), (2, .int h), (3, .int (nI nit)), (4, .ref sz), (5, .ref (sz + 1)), (7, .int (nI a5)), (8, .int (nI k)), (9, .int (nI its)), (10, .int (nI fo)), (11, .int (nI ti)), (12, .int (nI i))]) hx hb dL_reads_239 hl (k := 6) rfl (g_inc (sB V + i) 1) (by decide) rfl (fun ls hl => ?_)
                    refine lv_iinc (v := (nI (i + 1))) (lv' := [(12, .int (nI (i + 1))), (6, .int (nI (sB V + i + 1))), (0, .ref o), (1, .int g), (2, .int h), (3, .int (nI nit)), (4, .ref sz), (5, .ref (sz + 1)), (7, .int (nI a5)), (8, .int (nI k)), (9, .int (nI its)), (10, .int (nI fo)), (11, .int (nI ti))]) hx hb dL_reads_242 hl (k := 12) rfl (g_inc i 1) (by decide) rfl (fun ls hl => ?_)
                    refine lv_goto (tgt := 197) hx hb dL_reads_245 (by decide) ?_
                    have e_6 : (nI (sB V + i + 1)) = (nI (sB V + (i + 1))) := (congrArg nI (by omega))
                    have hl := lv_sub hl (l' := [(0, .ref o), (1, .int g), (2, .int h), (3, .int (nI nit)), (4, .ref sz), (5, .ref (sz + 1)), (6, .int (nI (sB V + i + 1))), (7, .int (nI a5)), (8, .int (nI k)), (9, .int (nI its)), (10, .int (nI fo)), (11, .int (nI ti)), (12, .int (nI (i + 1)))]) [2, 3, 4, 5, 6, 7, 1, 8, 9, 10, 11, 12, 0] rfl
                    rw [e_6] at hl
                    exact ih_lpB (i + 1) (by omega) (by omega) σ21 hW (by rw [← vrow_s0 (by omega)]; exact (gup_off e21 (ad_0 1 (by decide)) (gup_here e18))) (by rw [← vrow_s1 (by omega)]; exact (gup_here e21)) hL H locs ls hz hP hS hl
          exact lpB _ 0 (by omega) (Nat.lt_succ_self _) υ hW hA0 hA1 hL H locs ls hz hP hS (lv_sub hl [1, 2, 3, 4, 5, 6, 7, 8, 9, 10, 11, 12, 0] rfl)
        have jr3 : ∀ (ti : Nat) (a4 : Nat) (t4 : Nat → Int32) (υ : gS), (ti = 1 ∨ (2 ≤ ti ∧ ti ≤ 9)) → (∀ j, j < a → t4 j = tx j) → (t4 a = sgnL its) → ((0 < its ∧ 0 < fo ∧ fo ≤ 5 ∧ a4 = a + 2 ∧ t4 (a + 1) = nI (48 + fo)) ∨ ((its = 0 ∨ fo = 0) ∧ a4 = a + 1)) → (Wo υ o b S t4 a4 P C kp zp) → (υ sz = gI 64 (vrow V 0)) → (υ (sz + 1) = gI 64 (vrow V 1)) → gL lo υ → ∀ (H : Heap) (locs : List Loc) (ls : Array Slot), H.size = (sz + 2) → gH D ka υ H → va_S (gA lo) s.heap H locs → lv_has ls 13 [(0, .ref o), (1, .int g), (2, .int h), (3, .int (nI nit)), (4, .ref sz), (5, .ref (sz + 1)), (6, .int (nI (sB V))), (7, .int (nI a4)), (8, .int (nI k)), (9, .int (nI its)), (10, .int (nI fo)), (11, .int (nI ti))] → W p l e ({ frames := 7, cells := 19, slots := 917, locals := 162 } : Room) s m ([.ref o, .int g, .int h] : List Value).toArray below meth c H locs (0 + 1 + 1) (0 + 64 + 64) (MQ below (gQ D ka lo (gxi (fun r τ n => r = nI 1 ∧ ∃ (S2 : sS) (tf2 : Nat → Int32) (tn2 P2 : Nat) (C2 : Nat → sS), Wo τ o b S2 tf2 tn2 P2 C2 kp n ∧ okY S2 ∧ 0 < sB S2 ∧ sN S2 = sN S ∧ okC P2 C2 kp ∧ sz ≤ n ∧ n ≤ sz + 19))) ([.ref o, .int g, .int h] : List Value).toArray s 19 917 (gA lo)) (F0 m 158 ls []) := by
          intro ti a4 t4 υ hti hag4 hs4 hl4 hW hA0 hA1 hL H locs ls hz hP hS hl
          have ha4 : a4 ≤ a + 2 := by rcases hl4 with q | q <;> omega
          refine lv_iload hx hb dL_reads_158 (lv_at hl 11 rfl) ?_
          refine lv_iconst (v := (nI 1)) hx hb dL_reads_160 (by decide) ?_
          refine g_icmp_le (tgt := 194) (a := ti) (b := 1) hx hb (by omega) (by omega) dL_reads_161 (by decide) (fun c161 => ?_) (fun c161 => ?_)
          · have hti1 : ti = 1 := by omega
            exact jr4 ti a4 a4 t4 υ hag4 ⟨hs4, hits, hl4, Or.inl ⟨hti1, rfl⟩⟩ hW hA0 hA1 hL H locs ls hz hP hS (lv_sub hl [0, 1, 2, 3, 4, 5, 6, 7, 8, 9, 10, 11] rfl)
          · refine lv_aload_n hx hb dL_reads_164 rfl (lv_at hl 0 rfl) ?_
            refine lv_bipush (v := (nI 120)) hx hb dL_reads_165 (by decide) ?_
            refine g_runV (As := [.int (nI 120)]) (rest := []) (own := RL) (C := RX7) (T := TX7) (N := 7) 1 hx hb hml hown hts hK hz hP hL hS hlo hl.1 (c_X7_type0 l o b S t4 a4 P C kp zp ((nI 120)) υ ((sz + 2)) hW hY.1.1) gL_reads_X7_type rfl rfl rfl (by decide +kernel) ⟨Nat.le_of_ble_eq_true rfl, Nat.le_of_ble_eq_true rfl⟩ hW.c0 rfl rfl rfl (Nat.le_of_ble_eq_true rfl) dL_reads_167 ⟨Nat.le_of_ble_eq_true rfl, Nat.le_of_ble_eq_true rfl⟩ (g_kxi0 (fun r_22 τ_22 H locs z_22 hz hp hP hL hS => ?_))
            simp only [if_pos (show a4 < 60 by omega)] at hp
            obtain ⟨hr_22, hW, hz_22, ha_22⟩ := hp
            have hz := hz.trans hz_22
            subst hr_22
            refine lv_istore (lv' := [(7, .int (nI (a4 + 1))), (0, .ref o), (1, .int g), (2, .int h), (3, .int (nI nit)), (4, .ref sz), (5, .ref (sz + 1)), (6, .int (nI (sB V))), (8, .int (nI k)), (9, .int (nI its)), (10, .int (nI fo)), (11, .int (nI ti))]) hx hb dL_reads_170 hl (by decide) rfl (fun ls hl => ?_)
            refine lv_aload_n hx hb dL_reads_172 rfl (lv_at hl 1 rfl) ?_
            have hl4l : a < a4 ∧ a4 ≤ a + 2 := by rcases hl4 with q | q <;> omega
            have hrx : ffI (upd t4 a4 ((nI 120))) (a4 + 1) = nI (a4 + 1) := rd_x hLy (fun j hj => by rw [upd_lt (by omega)]; exact hag4 j hj) (by rw [upd_lt (by omega)]; exact hs4) hits (hl4.elim (fun q => Or.inl ⟨q.1, q.2.1, q.2.2.1, q.2.2.2.1, by have h9 := q.2.2.2.1; rw [upd_lt (by omega)]; exact q.2.2.2.2⟩) Or.inr) (by rw [upd_s]) (by omega) (by omega)
            have hff_23 : ffI (upd t4 a4 ((nI 120))) (a4 + 1) = nI (a4 + 1) := hrx
            refine g_runV (As := []) (rest := []) (own := RL) (C := RX7) (T := TX7) (N := 7) 0 hx hb hml hown hts hK hz hP hL hS hlo hl.1 (c_X7_readN l o b S (upd t4 a4 ((nI 120))) (a4 + 1) P C kp zp τ_22 ((sz + 2)) hW hY.1.1 (by rw [hff_23]; exact Int32.not_lt.mpr (nI_pos' (by omega)))) gL_reads_X7_read rfl rfl rfl (by decide +kernel) ⟨Nat.le_of_ble_eq_true rfl, Nat.le_of_ble_eq_true rfl⟩ hW.c0 rfl rfl rfl (Nat.le_of_ble_eq_true rfl) dL_reads_173 ⟨Nat.le_of_ble_eq_true rfl, Nat.le_of_ble_eq_true rfl⟩ (g_kxi0 (fun r_23 τ_23 H locs z_23 hz hp hP hL hS => ?_))
            rw [hff_23] at hp
            obtain ⟨hr_23, hW, hz_23, ha_23⟩ := hp
            have hz := hz.trans hz_23
            subst hr_23
            refine lv_bipush (v := (-100)) hx hb dL_reads_176 (by decide) ?_
            refine lv_iload hx hb dL_reads_178 (lv_at hl 0 rfl) ?_
            refine lv_isub hx hb dL_reads_180 ?_
            refine lv_icmp_eq (tgt := 186) hx hb dL_reads_181 (by decide) (fun c181 => ?_) (fun c181 => absurd rfl c181)
            refine lv_aload_n hx hb dL_reads_186 rfl (lv_at hl 1 rfl) ?_
            refine lv_iload hx hb dL_reads_187 (lv_at hl 11 rfl) ?_
            refine g_runS (As := [.ref o, .int (nI ti)]) (rest := []) (own := RL) 2 hx hb hml hown hts hK hz hP hL hS hlo hl.1 (c_L_digits l o b S (upd t4 a4 ((nI 120))) (a4 + 1) P C kp zp ti τ_23 ((sz + 2)) hW hY (by omega) (by omega) (by omega)) gL_reads_L_digits rfl rfl rfl (by decide +kernel) ⟨Nat.le_of_ble_eq_true rfl, Nat.le_of_ble_eq_true rfl⟩ rfl rfl (Nat.le_of_ble_eq_true rfl) dL_reads_189 ⟨Nat.le_of_ble_eq_true rfl, Nat.le_of_ble_eq_true rfl⟩ (g_kxi0 (fun r_24 τ_24 H locs z_24 hz hp hP hL hS => ?_))
            obtain ⟨hr_24, hW, hz_24, ha_24⟩ := hp
            have hz := hz.trans hz_24
            subst hr_24
            refine lv_istore (lv' := [(7, .int (nI (a4 + 1 + 1))), (0, .ref o), (1, .int g), (2, .int h), (3, .int (nI nit)), (4, .ref sz), (5, .ref (sz + 1)), (6, .int (nI (sB V))), (8, .int (nI k)), (9, .int (nI its)), (10, .int (nI fo)), (11, .int (nI ti))]) hx hb dL_reads_192 hl (by decide) rfl (fun ls hl => ?_)
            have hl4l : a < a4 ∧ a4 ≤ a + 2 := by rcases hl4 with q | q <;> omega
            have hti2 : 2 ≤ ti ∧ ti ≤ 9 := by omega
            have hag5 : ∀ j, j < a → (upd (upd t4 a4 ((nI 120))) (a4 + 1) (nI (48 + ti))) j = tx j := fun j hj => by rw [upd_lt (by omega), upd_lt (by omega)]; exact hag4 j hj
            have hit5 : ItA (upd (upd t4 a4 ((nI 120))) (a4 + 1) (nI (48 + ti))) a its fo ti a4 (a4 + 1 + 1) := ⟨by rw [upd_lt (by omega), upd_lt (by omega)]; exact hs4, hits, hl4.elim (fun q => Or.inl ⟨q.1, q.2.1, q.2.2.1, q.2.2.2.1, by have h9 := q.2.2.2.1; rw [upd_lt (by omega), upd_lt (by omega)]; exact q.2.2.2.2⟩) Or.inr, Or.inr ⟨hti2.1, hti2.2, rfl, by rw [upd_lt (by omega), upd_s], by rw [upd_s]⟩⟩
            exact jr4 ti a4 (a4 + 1 + 1) (upd (upd t4 a4 ((nI 120))) (a4 + 1) (nI (48 + ti))) τ_24 hag5 hit5 hW ((ha_24 _ hnz_sz_0).trans ((ha_23 _ hnz_sz_0).trans ((ha_22 _ hnz_sz_0).trans hA0))) ((ha_24 _ hnz_sz_1).trans ((ha_23 _ hnz_sz_1).trans ((ha_22 _ hnz_sz_1).trans hA1))) hL H locs ls hz hP hS (lv_sub hl [1, 2, 3, 4, 5, 6, 7, 0, 8, 9, 10, 11] rfl)
        have jr1 : ∀ (ti : Nat) (υ : gS), (ti = 1 ∨ (2 ≤ ti ∧ ti ≤ 9)) → (Wo υ o b S tx a P C kp zp) → (υ sz = gI 64 (vrow V 0)) → (υ (sz + 1) = gI 64 (vrow V 1)) → gL lo υ → ∀ (H : Heap) (locs : List Loc) (ls : Array Slot), H.size = (sz + 2) → gH D ka υ H → va_S (gA lo) s.heap H locs → lv_has ls 13 [(0, .ref o), (1, .int g), (2, .int h), (3, .int (nI nit)), (4, .ref sz), (5, .ref (sz + 1)), (6, .int (nI (sB V))), (7, .int (nI a)), (8, .int (nI k)), (9, .int (nI its)), (10, .int (nI fo))] → W p l e ({ frames := 7, cells := 19, slots := 917, locals := 162 } : Room) s m ([.ref o, .int g, .int h] : List Value).toArray below meth c H locs (0 + 1 + 1) (0 + 64 + 64) (MQ below (gQ D ka lo (gxi (fun r τ n => r = nI 1 ∧ ∃ (S2 : sS) (tf2 : Nat → Int32) (tn2 P2 : Nat) (C2 : Nat → sS), Wo τ o b S2 tf2 tn2 P2 C2 kp n ∧ okY S2 ∧ 0 < sB S2 ∧ sN S2 = sN S ∧ okC P2 C2 kp ∧ sz ≤ n ∧ n ≤ sz + 19))) ([.ref o, .int g, .int h] : List Value).toArray s 19 917 (gA lo)) (F0 m 105 ls [.int (nI ti)]) := by
          intro ti υ hti hW hA0 hA1 hL H locs ls hz hP hS hl
          have jr2 : ∀  (υ : gS), (Wo υ o b S tx a P C kp zp) → (υ sz = gI 64 (vrow V 0)) → (υ (sz + 1) = gI 64 (vrow V 1)) → gL lo υ → ∀ (H : Heap) (locs : List Loc) (ls : Array Slot), H.size = (sz + 2) → gH D ka υ H → va_S (gA lo) s.heap H locs → lv_has ls 13 [(0, .ref o), (1, .int g), (2, .int h), (3, .int (nI nit)), (4, .ref sz), (5, .ref (sz + 1)), (6, .int (nI (sB V))), (7, .int (nI a)), (8, .int (nI k)), (9, .int (nI its)), (10, .int (nI fo)), (11, .int (nI ti))] → W p l e ({ frames := 7, cells := 19, slots := 917, locals := 162 } : Room) s m ([.ref o, .int g, .int h] : List Value).toArray below meth c H locs (0 + 1 + 1) (0 + 64 + 64) (MQ below (gQ D ka lo (gxi (fun r τ n => r = nI 1 ∧ ∃ (S2 : sS) (tf2 : Nat → Int32) (tn2 P2 : Nat) (C2 : Nat → sS), Wo τ o b S2 tf2 tn2 P2 C2 kp n ∧ okY S2 ∧ 0 < sB S2 ∧ sN S2 = sN S ∧ okC P2 C2 kp ∧ sz ≤ n ∧ n ≤ sz + 19))) ([.ref o, .int g, .int h] : List Value).toArray s 19 917 (gA lo)) (F0 m 131 ls [.int (sgnL its), .ref o]) := by
            intro  υ  hW hA0 hA1 hL H locs ls hz hP hS hl
            refine g_runV (As := [.int (sgnL its)]) (rest := []) (own := RL) (C := RX7) (T := TX7) (N := 7) 1 hx hb hml hown hts hK hz hP hL hS hlo hl.1 (c_X7_type0 l o b S tx a P C kp zp ((sgnL its)) υ ((sz + 2)) hW hY.1.1) gL_reads_X7_type rfl rfl rfl (by decide +kernel) ⟨Nat.le_of_ble_eq_true rfl, Nat.le_of_ble_eq_true rfl⟩ hW.c0 rfl rfl rfl (Nat.le_of_ble_eq_true rfl) dL_reads_131 ⟨Nat.le_of_ble_eq_true rfl, Nat.le_of_ble_eq_true rfl⟩ (g_kxi0 (fun r_25 τ_25 H locs z_25 hz hp hP hL hS => ?_))
            simp only [if_pos (show a < 60 by omega)] at hp
            obtain ⟨hr_25, hW, hz_25, ha_25⟩ := hp
            have hz := hz.trans hz_25
            subst hr_25
            refine lv_istore (lv' := [(7, .int (nI (a + 1))), (0, .ref o), (1, .int g), (2, .int h), (3, .int (nI nit)), (4, .ref sz), (5, .ref (sz + 1)), (6, .int (nI (sB V))), (8, .int (nI k)), (9, .int (nI its)), (10, .int (nI fo)), (11, .int (nI ti))]) hx hb dL_reads_134 hl (by decide) rfl (fun ls hl => ?_)
            refine lv_iload hx hb dL_reads_136 (lv_at hl 9 rfl) ?_
            refine g_if_le (tgt := 158) hx hb (by omega) dL_reads_138 (by decide) (fun c138 => ?_) (fun c138 => ?_)
            · have hag4 : ∀ j, j < a → (upd tx a ((sgnL its))) j = tx j := fun j hj => by rw [upd_lt hj]
              exact jr3 ti (a + 1) (upd tx a ((sgnL its))) τ_25 hti hag4 (by rw [upd_s]) (Or.inr ⟨by omega, rfl⟩) hW ((ha_25 _ hnz_sz_0).trans hA0) ((ha_25 _ hnz_sz_1).trans hA1) hL H locs ls hz hP hS (lv_sub hl [1, 2, 3, 4, 5, 6, 7, 0, 8, 9, 10, 11] rfl)
            · refine lv_iload hx hb dL_reads_141 (lv_at hl 10 rfl) ?_
              refine g_if_le (tgt := 158) hx hb (by omega) dL_reads_143 (by decide) (fun c143 => ?_) (fun c143 => ?_)
              · have hag4 : ∀ j, j < a → (upd tx a ((sgnL its))) j = tx j := fun j hj => by rw [upd_lt hj]
                exact jr3 ti (a + 1) (upd tx a ((sgnL its))) τ_25 hti hag4 (by rw [upd_s]) (Or.inr ⟨by omega, rfl⟩) hW ((ha_25 _ hnz_sz_0).trans hA0) ((ha_25 _ hnz_sz_1).trans hA1) hL H locs ls hz hP hS (lv_sub hl [1, 2, 3, 4, 5, 6, 7, 0, 8, 9, 10, 11] rfl)
              · refine lv_aload_n hx hb dL_reads_146 rfl (lv_at hl 1 rfl) ?_
                refine lv_bipush (v := (nI 48)) hx hb dL_reads_147 (by decide) ?_
                refine lv_iload hx hb dL_reads_149 (lv_at hl 10 rfl) ?_
                refine lv_iadd hx hb dL_reads_151 ?_
                refine g_top (nI_add 48 fo) ?_
                refine lv_i2c (v := ((nI (48 + fo)).toUInt32 % 65536).toInt32) hx hb dL_reads_152 rfl ?_
                refine g_top (y := (nI (48 + fo))) (i2c_n (by omega)) ?_
                refine g_runV (As := [.int (nI (48 + fo))]) (rest := []) (own := RL) (C := RX7) (T := TX7) (N := 7) 1 hx hb hml hown hts hK hz hP hL hS hlo hl.1 (c_X7_type0 l o b S (upd tx a ((sgnL its))) (a + 1) P C kp zp ((nI (48 + fo))) τ_25 ((sz + 2)) hW hY.1.1) gL_reads_X7_type rfl rfl rfl (by decide +kernel) ⟨Nat.le_of_ble_eq_true rfl, Nat.le_of_ble_eq_true rfl⟩ hW.c0 rfl rfl rfl (Nat.le_of_ble_eq_true rfl) dL_reads_153 ⟨Nat.le_of_ble_eq_true rfl, Nat.le_of_ble_eq_true rfl⟩ (g_kxi0 (fun r_26 τ_26 H locs z_26 hz hp hP hL hS => ?_))
                simp only [if_pos (show (a + 1) < 60 by omega)] at hp
                obtain ⟨hr_26, hW, hz_26, ha_26⟩ := hp
                have hz := hz.trans hz_26
                subst hr_26
                refine lv_istore (lv' := [(7, .int (nI (a + 1 + 1))), (0, .ref o), (1, .int g), (2, .int h), (3, .int (nI nit)), (4, .ref sz), (5, .ref (sz + 1)), (6, .int (nI (sB V))), (8, .int (nI k)), (9, .int (nI its)), (10, .int (nI fo)), (11, .int (nI ti))]) hx hb dL_reads_156 hl (by decide) rfl (fun ls hl => ?_)
                have hag4 : ∀ j, j < a → (upd (upd tx a ((sgnL its))) (a + 1) ((nI (48 + fo)))) j = tx j := fun j hj => by rw [upd_lt (by omega), upd_lt hj]
                exact jr3 ti (a + 1 + 1) (upd (upd tx a ((sgnL its))) (a + 1) ((nI (48 + fo)))) τ_26 hti hag4 (by rw [upd_lt (by omega), upd_s]) (Or.inl ⟨by omega, by omega, by omega, rfl, by rw [upd_s]⟩) hW ((ha_26 _ hnz_sz_0).trans ((ha_25 _ hnz_sz_0).trans hA0)) ((ha_26 _ hnz_sz_1).trans ((ha_25 _ hnz_sz_1).trans hA1)) hL H locs ls hz hP hS (lv_sub hl [1, 2, 3, 4, 5, 6, 7, 0, 8, 9, 10, 11] rfl)
          refine lv_istore (lv' := [(11, .int (nI ti)), (0, .ref o), (1, .int g), (2, .int h), (3, .int (nI nit)), (4, .ref sz), (5, .ref (sz + 1)), (6, .int (nI (sB V))), (7, .int (nI a)), (8, .int (nI k)), (9, .int (nI its)), (10, .int (nI fo))]) hx hb dL_reads_105 hl (by decide) rfl (fun ls hl => ?_)
          refine lv_aload_n hx hb dL_reads_107 rfl (lv_at hl 1 rfl) ?_
          refine lv_iload hx hb dL_reads_108 (lv_at hl 10 rfl) ?_
          refine g_if_ne (tgt := 118) hx hb (by omega) dL_reads_110 (by decide) (fun c110 => ?_) (fun c110 => ?_)
          · refine lv_iload hx hb dL_reads_118 (lv_at hl 10 rfl) ?_
            refine lv_iconst (v := (nI 1)) hx hb dL_reads_120 (by decide) ?_
            refine g_icmp_ne (tgt := 129) (a := its) (b := 1) hx hb (by omega) (by omega) dL_reads_121 (by decide) (fun c121 => ?_) (fun c121 => ?_)
            · refine lv_bipush (v := (nI 111)) hx hb dL_reads_129 (by decide) ?_
              refine g_top (y := (sgnL its)) (by rw [sgnL, if_neg (by omega), if_neg (by omega)]) ?_
              exact jr2 υ hW hA0 hA1 hL H locs ls hz hP hS (lv_sub hl [1, 2, 3, 4, 5, 6, 7, 8, 9, 10, 11, 0] rfl)
            · refine lv_bipush (v := (nI 45)) hx hb dL_reads_124 (by decide) ?_
              refine lv_goto (tgt := 131) hx hb dL_reads_126 (by decide) ?_
              refine g_top (y := (sgnL its)) (by rw [sgnL, if_neg (by omega), if_pos (by omega)]) ?_
              exact jr2 υ hW hA0 hA1 hL H locs ls hz hP hS (lv_sub hl [1, 2, 3, 4, 5, 6, 7, 8, 9, 10, 11, 0] rfl)
          · refine lv_bipush (v := (nI 46)) hx hb dL_reads_113 (by decide) ?_
            refine lv_goto (tgt := 131) hx hb dL_reads_115 (by decide) ?_
            refine g_top (y := (sgnL its)) (by rw [sgnL, if_pos (by omega)]) ?_
            exact jr2 υ hW hA0 hA1 hL H locs ls hz hP hS (lv_sub hl [1, 2, 3, 4, 5, 6, 7, 8, 9, 10, 11, 0] rfl)
        refine lv_iload_n hx hb dL_reads_75 rfl (lv_at hl 4 rfl) ?_
        refine lv_iconst (v := (nI 3)) hx hb dL_reads_76 (by decide) ?_
        refine lv_iload hx hb dL_reads_77 (lv_at hl 10 rfl) ?_
        refine lv_iadd hx hb dL_reads_79 ?_
        refine g_top (nI_add 3 k) ?_
        refine lv_ishr hx hb dL_reads_80 ?_
        refine lv_iconst (v := (nI 4)) hx hb dL_reads_81 (by decide) ?_
        refine g_runS (As := [.int (h >>> ((nI (3 + k)) &&& 31)), .int (nI 4)]) (rest := []) (own := RL) 2 hx hb hml hown hts hK hz hP hL hS hlo hl.1 (c_L_low l ((h >>> ((nI (3 + k)) &&& 31))) 4 υ ((sz + 2)) (by omega) (by omega)) gL_reads_L_low rfl rfl rfl (by decide +kernel) ⟨Nat.le_of_ble_eq_true rfl, Nat.le_of_ble_eq_true rfl⟩ rfl rfl (Nat.le_of_ble_eq_true rfl) dL_reads_82 ⟨Nat.le_of_ble_eq_true rfl, Nat.le_of_ble_eq_true rfl⟩ (g_ki0 (fun H locs hz hP hL hS => ?_))
        obtain ⟨q_27, hq_27⟩ : ∃ q : Nat, q = lowN ((h >>> ((nI (3 + k)) &&& 31))) 4 := ⟨_, rfl⟩
        have hql_27 : q_27 < 4 := by rw [hq_27]; exact lowN_lt _ (by omega)
        refine g_top (y := (nI q_27)) (by rw [hq_27]) ?_
        refine g_if_ne (tgt := 104) hx hb (by omega) dL_reads_85 (by decide) (fun c85 => ?_) (fun c85 => ?_)
        · refine lv_iconst (v := (nI 1)) hx hb dL_reads_104 (by decide) ?_
          exact jr1 (1) υ (by omega) hW hA0 hA1 hL H locs ls hz hP hS (lv_sub hl [2, 3, 4, 5, 6, 7, 8, 9, 10, 1, 0] rfl)
        · refine lv_iconst (v := (nI 2)) hx hb dL_reads_88 (by decide) ?_
          refine lv_iload_n hx hb dL_reads_89 rfl (lv_at hl 3 rfl) ?_
          refine lv_iconst (v := (nI 4)) hx hb dL_reads_90 (by decide) ?_
          refine lv_iload hx hb dL_reads_91 (lv_at hl 10 rfl) ?_
          refine lv_iadd hx hb dL_reads_93 ?_
          refine g_top (nI_add 4 k) ?_
          refine lv_ishr hx hb dL_reads_94 ?_
          refine lv_bipush (v := (nI 8)) hx hb dL_reads_95 (by decide) ?_
          refine g_runS (As := [.int (g >>> ((nI (4 + k)) &&& 31)), .int (nI 8)]) (rest := [.int (nI 2)]) (own := RL) 2 hx hb hml hown hts hK hz hP hL hS hlo hl.1 (c_L_low l ((g >>> ((nI (4 + k)) &&& 31))) 8 υ ((sz + 2)) (by omega) (by omega)) gL_reads_L_low rfl rfl rfl (by decide +kernel) ⟨Nat.le_of_ble_eq_true rfl, Nat.le_of_ble_eq_true rfl⟩ rfl rfl (Nat.le_of_ble_eq_true rfl) dL_reads_97 ⟨Nat.le_of_ble_eq_true rfl, Nat.le_of_ble_eq_true rfl⟩ (g_ki0 (fun H locs hz hP hL hS => ?_))
          obtain ⟨q_28, hq_28⟩ : ∃ q : Nat, q = lowN ((g >>> ((nI (4 + k)) &&& 31))) 8 := ⟨_, rfl⟩
          have hql_28 : q_28 < 8 := by rw [hq_28]; exact lowN_lt _ (by omega)
          refine g_top (y := (nI q_28)) (by rw [hq_28]) ?_
          refine lv_iadd hx hb dL_reads_100 ?_
          refine g_top (nI_add 2 q_28) ?_
          refine lv_goto (tgt := 105) hx hb dL_reads_101 (by decide) ?_
          exact jr1 (2 + q_28) υ (by omega) hW hA0 hA1 hL H locs ls hz hP hS (lv_sub hl [2, 3, 4, 5, 6, 7, 8, 9, 10, 1, 0] rfl)
  exact lpA _ 0 0 tf (clearS S) (by omega) (LyI.z rfl tf) (fun q => absurd q (by decide)) (by decide) (Nat.le_of_eq rfl) (Nat.zero_le _) (by decide) (VOk.z rfl) (Nat.lt_succ_self _) σ5 hW (by rw [vrow_0 (rfl : sB (clearS S) = 0)]; exact (gup_off e5 (ad_0 1 (by decide)) (gup_here e4))) (by rw [vrow_0 (rfl : sB (clearS S) = 0)]; exact (gup_here e5)) hL H locs ls hz hP hS (lv_sub hl [6, 7, 8, 5, 4, 3, 2, 1, 0] rfl)
