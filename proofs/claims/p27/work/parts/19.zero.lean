theorem PlAt.up {σ : gS} {b z z2 : Nat} {g sg : Nat → Option Nat} {C : Nat → sS} (h : PlAt σ b g sg C z) (hz : z ≤ z2) : PlAt σ b g sg C z2 := ⟨Nat.le_trans h.1 hz, fun k y hk e => by
  obtain ⟨h1, h2, h3, h4⟩ := h.2 k y hk e
  exact ⟨h1, Nat.le_trans h2 hz, h3, h4⟩⟩
theorem Wo.up {σ : gS} {o b : Nat} {S : sS} {tf : Nat → Int32} {tn P : Nat} {C : Nat → sS} {kp : Nat → Bool} {z z2 : Nat} (h : Wo σ o b S tf tn P C kp z) (hz : z ≤ z2) : Wo σ o b S tf tn P C kp z2 := by
  obtain ⟨x, t, pa, sn, v, ch, tu, g, sg, h0, h1, h2, h3, h4, h5, h6, h7, h8, h9, h10⟩ := h
  exact ⟨x, t, pa, sn, v, ch, tu, g, sg, h0, h1, h2, h3, h4, h5, h6, h7, h8, h9.up hz, h10⟩

set_option maxHeartbeats 4000000 in
set_option maxRecDepth 100000 in
theorem c_X7_clearText0 (l : Launch) (o b : Nat) (S : sS) (tf : Nat → Int32) (tn P : Nat) (C : Nat → sS) (kp : Nat → Bool) (zp : Nat) (σ : gS) (sz : Nat) (hW : Wo σ o b S tf tn P C kp zp) (hok : okS S) : gM l yX7_clearText wsX7_clearText ({ frames := 0, cells := 0, slots := 0, locals := 0 } : Room) 0 0 [.ref o] σ sz (gxi (fun r τ n => r = nI tn ∧ Wo τ o b S tf 0 P C kp zp ∧ n = sz ∧ gAs (gZo o 39) σ τ)) := by
  refine gM_of (cc := cX7_clearText) (maxL := 2) (ret := (some .int)) (by decide) rfl (Nat.le_of_ble_eq_true rfl) ?_
  intro D ka lo hL hlo p e s m below meth c hx hb hr hts hown hml hlk hnm hK H locs ls hz hP hS hl
  have hl : lv_has ls 2 [(0, .ref o)] := hl
  have hown : s.vm.findClass RX7 = some m.cls := hown
  obtain ⟨x, t, pa, sn, v, ch, tu, g, sg, ⟨hx0, ht0, hpa0, hsn0, hv0, hch0, htu0, hob⟩, ho0, hSt, ⟨ta, tso, tld, tti, hTx⟩, hPa, hsn, ⟨vd, vf, vb, vw, hVo⟩, ⟨ca, cb, cd, hCh⟩, ⟨lf, hTu⟩, hPl, hg, hkp, htn, hP5⟩ := hW
  obtain ⟨hB, hN, hKs, hRs⟩ := hok
  have hbz := hPl.1
  have hag : gAs (gZo o 39) σ σ := gAs.rf
  refine lv_aload_n hx hb dX7_clearText_0 rfl (lv_at hl 0 rfl) ?_
  refine g_get (C := RX7) (T := TX7) (N := 7) hx hb hts hown hK hP ho0 nX7_clearText_X7 rfl 1 (by decide) (by decide +kernel) rfl (v := .ref t) rfl dX7_clearText_1 ?_
  refine g_get (C := RX3) (T := TX3) (N := 6) hx hb hts hown hK hP hTx.c0 nX7_clearText_X3 rfl 1 (by decide) (by decide +kernel) rfl (v := .int (nI tn)) rfl dX7_clearText_4 ?_
  refine lv_istore_n (lv' := [(1, .int (nI tn)), (0, .ref o)]) hx hb dX7_clearText_7 rfl hl (by decide) rfl (fun ls hl => ?_)
  refine lv_aload_n hx hb dX7_clearText_8 rfl (lv_at hl 1 rfl) ?_
  refine g_get (C := RX7) (T := TX7) (N := 7) hx hb hts hown hK hP ho0 nX7_clearText_X7 rfl 1 (by decide) (by decide +kernel) rfl (v := .ref t) rfl dX7_clearText_9 ?_
  refine lv_iconst (v := (nI 0)) hx hb dX7_clearText_12 (by decide) ?_
  refine g_put (C := RX3) (T := TX3) (N := 6) hx hb hts hown hK hP hL hS hTx.c0 nX7_clearText_X3 tyX3 tyX3_ok nmX3 rfl 1 (by decide) (by decide +kernel) rfl rfl (v := .int (nI 0)) rfl rfl (Nat.le_of_ble_eq_true rfl) dX7_clearText_13 (fun H locs hq hP hL hS => ?_)
  have hz := hq.trans hz
  obtain ⟨σ1, e1⟩ : ∃ υ0 : gS, υ0 = gup σ t (gO 3 [.ref (t + 1), .int (nI 0), .int (nI ta), .int tso, .int tld, .int tti]) := ⟨_, rfl⟩
  have hP : gH D ka σ1 H := by rw [e1]; exact hP
  have hL : gL lo σ1 := by rw [e1]; exact hL
  have hSt := hSt.fr (τ := σ1) (fun q h1 h2 => gup_eq e1 (by omega))
  have hPa := hPa.fr (τ := σ1) (fun q h1 h2 => gup_eq e1 (by omega))
  have hVo := hVo.fr (τ := σ1) (fun q h1 h2 => gup_eq e1 (by omega))
  have hCh := hCh.fr (τ := σ1) (fun q h1 h2 => gup_eq e1 (by omega))
  have hTu := hTu.fr (τ := σ1) (fun q h1 h2 => gup_eq e1 (by omega))
  have hPl := hPl.fr (τ := σ1) (fun q h1 h2 => gup_eq e1 (by omega))
  have hTx : TxAt σ1 t tf 0 ta tso tld tti := by rw [e1]; exact hTx.p1 0
  have hag := hag.upe e1 (⟨by omega, by omega⟩)
  refine lv_iload_n hx hb dX7_clearText_16 rfl (lv_at hl 0 rfl) ?_
  exact g_iret (z := sz) hx hb hr hlk hz hP hL hS dX7_clearText_17 (gxi_i ⟨rfl, ⟨x, t, pa, sn, v, ch, tu, _, _, ⟨hx0, ht0, hpa0, hsn0, hv0, hch0, htu0, hob⟩, (gup_off e1 (by omega) ho0), hSt, ⟨_, _, _, _, hTx⟩, hPa, (gup_off e1 (by omega) hsn), ⟨_, _, _, _, hVo⟩, ⟨_, _, _, hCh⟩, ⟨_, hTu⟩, hPl, hg, hkp, by omega, hP5⟩, rfl, hag⟩)

set_option maxHeartbeats 4000000 in
set_option maxRecDepth 100000 in
theorem c_X7_type0 (l : Launch) (o b : Nat) (S : sS) (tf : Nat → Int32) (tn P : Nat) (C : Nat → sS) (kp : Nat → Bool) (zp : Nat) (a1 : Int32) (σ : gS) (sz : Nat) (hW : Wo σ o b S tf tn P C kp zp) (hok : okS S) : gM l yX7_type wsX7_type ({ frames := 2, cells := 0, slots := 0, locals := 43 } : Room) 0 0 [.ref o, .int a1] σ sz (gxi (fun r τ n => r = (if tn < 60 then nI (tn + 1) else -3) ∧ Wo τ o b S (if tn < 60 then upd tf tn a1 else tf) (if tn < 60 then tn + 1 else tn) P C kp zp ∧ n = sz ∧ gAs (gZo o 39) σ τ)) := by
  refine gM_of (cc := cX7_type) (maxL := 2) (ret := (some .int)) (by decide) rfl (Nat.le_of_ble_eq_true rfl) ?_
  intro D ka lo hL hlo p e s m below meth c hx hb hr hts hown hml hlk hnm hK H locs ls hz hP hS hl
  have hl : lv_has ls 2 [(0, .ref o), (1, .int a1)] := hl
  have hown : s.vm.findClass RX7 = some m.cls := hown
  obtain ⟨x, t, pa, sn, v, ch, tu, g, sg, ⟨hx0, ht0, hpa0, hsn0, hv0, hch0, htu0, hob⟩, ho0, hSt, ⟨ta, tso, tld, tti, hTx⟩, hPa, hsn, ⟨vd, vf, vb, vw, hVo⟩, ⟨ca, cb, cd, hCh⟩, ⟨lf, hTu⟩, hPl, hg, hkp, htn, hP5⟩ := hW
  obtain ⟨hB, hN, hKs, hRs⟩ := hok
  have hbz := hPl.1
  have hag : gAs (gZo o 39) σ σ := gAs.rf
  refine lv_aload_n hx hb dX7_type_0 rfl (lv_at hl 0 rfl) ?_
  refine g_get (C := RX7) (T := TX7) (N := 7) hx hb hts hown hK hP ho0 nX7_type_X7 rfl 1 (by decide) (by decide +kernel) rfl (v := .ref t) rfl dX7_type_1 ?_
  refine lv_iload_n hx hb dX7_type_4 rfl (lv_at hl 1 rfl) ?_
  refine g_runV (As := [.int a1]) (rest := []) (own := RX7) (C := RX3) (T := TX3) (N := 6) 1 hx hb hml hown hts hK hz hP hL hS hlo hl.1 (c_X3_append l t tf tn ta tso tld tti a1 σ sz hTx (by omega)) gX7_type_X3_append rfl rfl rfl (by decide +kernel) ⟨Nat.le_of_ble_eq_true rfl, Nat.le_of_ble_eq_true rfl⟩ hTx.c0 rfl rfl rfl (Nat.le_of_ble_eq_true rfl) dX7_type_5 ⟨Nat.le_of_ble_eq_true rfl, Nat.le_of_ble_eq_true rfl⟩ (g_kxi0 (fun r_1 τ_1 H locs z1 hz hp hP hL hS => ?_))
  obtain ⟨hr_1, hz1, ht_1, ha_1⟩ := hp
  have hz := hz.trans hz1
  have hSt := hSt.fr (τ := τ_1) (fun q h1 h2 => ha_1 q (fun h => by have h3 := h.1; have h4 := h.2; omega))
  have hPa := hPa.fr (τ := τ_1) (fun q h1 h2 => ha_1 q (fun h => by have h3 := h.1; have h4 := h.2; omega))
  have hVo := hVo.fr (τ := τ_1) (fun q h1 h2 => ha_1 q (fun h => by have h3 := h.1; have h4 := h.2; omega))
  have hCh := hCh.fr (τ := τ_1) (fun q h1 h2 => ha_1 q (fun h => by have h3 := h.1; have h4 := h.2; omega))
  have hTu := hTu.fr (τ := τ_1) (fun q h1 h2 => ha_1 q (fun h => by have h3 := h.1; have h4 := h.2; omega))
  have hPl := hPl.fr (τ := τ_1) (fun q h1 h2 => ha_1 q (fun h => by have h3 := h.1; have h4 := h.2; omega))
  have hTx := ht_1
  have hag := hag.tr ha_1 (fun q h => ⟨by have h3 := h.1; omega, by have h3 := h.2; omega⟩)
  subst hr_1
  refine g_ifb_eq (tgt := 21) hx hb dX7_type_8 (by decide) (fun c8 => ?_) (fun c8 => ?_)
  · refine lv_bipush (v := (-3)) hx hb dX7_type_21 (by decide) ?_
    exact g_iret (z := sz) hx hb hr hlk hz hP hL hS dX7_type_23 (gxi_i ⟨by rw [if_neg (of_decide_eq_false c8)], ⟨x, t, pa, sn, v, ch, tu, _, _, ⟨hx0, ht0, hpa0, hsn0, hv0, hch0, htu0, hob⟩, ((ha_1 _ (fun h => by have h3 := h.1; have h4 := h.2; omega)).trans ho0), hSt, ⟨_, _, _, _, hTx⟩, hPa, ((ha_1 _ (fun h => by have h3 := h.1; have h4 := h.2; omega)).trans hsn), ⟨_, _, _, _, hVo⟩, ⟨_, _, _, hCh⟩, ⟨_, hTu⟩, hPl, hg, hkp, by split <;> omega, hP5⟩, rfl, hag⟩)
  · refine lv_aload_n hx hb dX7_type_11 rfl (lv_at hl 0 rfl) ?_
    refine g_get (C := RX7) (T := TX7) (N := 7) hx hb hts hown hK hP ((ha_1 _ (fun h => by have h3 := h.1; have h4 := h.2; omega)).trans ho0) nX7_type_X7 rfl 1 (by decide) (by decide +kernel) rfl (v := .ref t) rfl dX7_type_12 ?_
    refine g_get (C := RX3) (T := TX3) (N := 6) hx hb hts hown hK hP hTx.c0 nX7_type_X3 rfl 1 (by decide) (by decide +kernel) rfl (v := .int (nI (if tn < 60 then tn + 1 else tn))) rfl dX7_type_15 ?_
    refine lv_goto (tgt := 23) hx hb dX7_type_18 (by decide) ?_
    exact g_iret (z := sz) hx hb hr hlk hz hP hL hS dX7_type_23 (gxi_i ⟨by rw [if_pos (of_decide_eq_true c8), if_pos (of_decide_eq_true c8)], ⟨x, t, pa, sn, v, ch, tu, _, _, ⟨hx0, ht0, hpa0, hsn0, hv0, hch0, htu0, hob⟩, ((ha_1 _ (fun h => by have h3 := h.1; have h4 := h.2; omega)).trans ho0), hSt, ⟨_, _, _, _, hTx⟩, hPa, ((ha_1 _ (fun h => by have h3 := h.1; have h4 := h.2; omega)).trans hsn), ⟨_, _, _, _, hVo⟩, ⟨_, _, _, hCh⟩, ⟨_, hTu⟩, hPl, hg, hkp, by split <;> omega, hP5⟩, rfl, hag⟩)

set_option maxHeartbeats 4000000 in
set_option maxRecDepth 100000 in
theorem c_X7_undo0 (l : Launch) (o b : Nat) (S : sS) (tf : Nat → Int32) (tn P : Nat) (C : Nat → sS) (kp : Nat → Bool) (zp : Nat) (σ : gS) (sz : Nat) (hW : Wo σ o b S tf tn P C kp zp) (hok : okS S) (hzp : zp ≤ sz) (hokC : ∀ k : Nat, k < P → okS (C k)) : gM l yX7_undo wsX7_undo ({ frames := 4, cells := 0, slots := 0, locals := 87 } : Room) 0 0 [.ref o] σ sz (gxi (fun r τ n => r = (if P = 0 then -5 else nI (P - 1)) ∧ Wo τ o b (if P = 0 then S else C (P - 1)) tf tn (P - 1) C kp zp ∧ n = sz ∧ gAs (gZo o 39) σ τ)) := by
  refine gM_of (cc := cX7_undo) (maxL := 1) (ret := (some .int)) (by decide) rfl (Nat.le_of_ble_eq_true rfl) ?_
  intro D ka lo hL hlo p e s m below meth c hx hb hr hts hown hml hlk hnm hK H locs ls hz hP hS hl
  have hl : lv_has ls 1 [(0, .ref o)] := hl
  have hown : s.vm.findClass RX7 = some m.cls := hown
  obtain ⟨x, t, pa, sn, v, ch, tu, g, sg, ⟨hx0, ht0, hpa0, hsn0, hv0, hch0, htu0, hob⟩, ho0, hSt, ⟨ta, tso, tld, tti, hTx⟩, hPa, hsn, ⟨vd, vf, vb, vw, hVo⟩, ⟨ca, cb, cd, hCh⟩, ⟨lf, hTu⟩, hPl, hg, hkp, htn, hP5⟩ := hW
  obtain ⟨hB, hN, hKs, hRs⟩ := hok
  have hbz := hPl.1
  have hag : gAs (gZo o 39) σ σ := gAs.rf
  refine lv_aload_n hx hb dX7_undo_0 rfl (lv_at hl 0 rfl) ?_
  refine g_get (C := RX7) (T := TX7) (N := 7) hx hb hts hown hK hP ho0 nX7_undo_X7 rfl 2 (by decide) (by decide +kernel) rfl (v := .ref pa) rfl dX7_undo_1 ?_
  refine g_get (C := RX1) (T := TX1) (N := 2) hx hb hts hown hK hP hPa.c0 nX7_undo_X1 rfl 1 (by decide) (by decide +kernel) rfl (v := .int (nI P)) rfl dX7_undo_4 ?_
  refine g_if_ne (tgt := 13) hx hb (by omega) dX7_undo_7 (by decide) (fun c7 => ?_) (fun c7 => ?_)
  · refine lv_aload_n hx hb dX7_undo_13 rfl (lv_at hl 0 rfl) ?_
    refine g_get (C := RX7) (T := TX7) (N := 7) hx hb hts hown hK hP ho0 nX7_undo_X7 rfl 2 (by decide) (by decide +kernel) rfl (v := .ref pa) rfl dX7_undo_14 ?_
    refine lv_aload_n hx hb dX7_undo_17 rfl (lv_at hl 0 rfl) ?_
    refine g_get (C := RX7) (T := TX7) (N := 7) hx hb hts hown hK hP ho0 nX7_undo_X7 rfl 0 (by decide) (by decide +kernel) rfl (v := .ref x) rfl dX7_undo_18 ?_
    have hPlu := hPl.up hzp
    refine g_runV (As := [.ref x]) (rest := []) (own := RX7) (C := RX1) (T := TX1) (N := 2) 1 hx hb hml hown hts hK hz hP hL hS hlo hl.1 (c_X1_takeBack l pa b x P g sg C S σ sz hPa hPlu (by omega) hSt (by omega) (by omega) hP5 hg (by omega) (hokC _ (by omega))) gX7_undo_X1_takeBack rfl rfl rfl (by decide +kernel) ⟨Nat.le_of_ble_eq_true rfl, Nat.le_of_ble_eq_true rfl⟩ hPa.c0 rfl rfl rfl (Nat.le_of_ble_eq_true rfl) dX7_undo_21 ⟨Nat.le_of_ble_eq_true rfl, Nat.le_of_ble_eq_true rfl⟩ (g_kxv0 (fun τ_1 H locs z1 hz hp hP hL hS => ?_))
    obtain ⟨hz1, hs_1, hp_1, hl_1, ha_1⟩ := hp
    have hz := hz.trans hz1
    have hTx := hTx.fr (τ := τ_1) (fun q h1 h2 => ha_1 q (fun h => Or.elim h (fun h3 => by have h4 := h3.1; have h5 := h3.2; omega) (fun h3 => by have h4 := h3.1; have h5 := h3.2; omega)))
    have hVo := hVo.fr (τ := τ_1) (fun q h1 h2 => ha_1 q (fun h => Or.elim h (fun h3 => by have h4 := h3.1; have h5 := h3.2; omega) (fun h3 => by have h4 := h3.1; have h5 := h3.2; omega)))
    have hCh := hCh.fr (τ := τ_1) (fun q h1 h2 => ha_1 q (fun h => Or.elim h (fun h3 => by have h4 := h3.1; have h5 := h3.2; omega) (fun h3 => by have h4 := h3.1; have h5 := h3.2; omega)))
    have hTu := hTu.fr (τ := τ_1) (fun q h1 h2 => ha_1 q (fun h => Or.elim h (fun h3 => by have h4 := h3.1; have h5 := h3.2; omega) (fun h3 => by have h4 := h3.1; have h5 := h3.2; omega)))
    have hPl := hPl.fr (τ := τ_1) (fun q h1 h2 => ha_1 q (fun h => Or.elim h (fun h3 => by have h4 := h3.1; have h5 := h3.2; omega) (fun h3 => by have h4 := h3.1; have h5 := h3.2; omega)))
    have hSt := hs_1
    have hPa := hp_1
    have hag := hag.tr ha_1 (fun q h => Or.elim h (fun h3 => ⟨by have h4 := h3.1; omega, by have h4 := h3.2; omega⟩) (fun h3 => ⟨by have h4 := h3.1; omega, by have h4 := h3.2; omega⟩))
    refine lv_aload_n hx hb dX7_undo_24 rfl (lv_at hl 0 rfl) ?_
    refine g_get (C := RX7) (T := TX7) (N := 7) hx hb hts hown hK hP ((ha_1 _ (fun h => Or.elim h (fun h3 => by have h4 := h3.1; have h5 := h3.2; omega) (fun h3 => by have h4 := h3.1; have h5 := h3.2; omega))).trans ho0) nX7_undo_X7 rfl 2 (by decide) (by decide +kernel) rfl (v := .ref pa) rfl dX7_undo_25 ?_
    refine g_get (C := RX1) (T := TX1) (N := 2) hx hb hts hown hK hP hPa.c0 nX7_undo_X1 rfl 1 (by decide) (by decide +kernel) rfl (v := .int (nI (P - 1))) rfl dX7_undo_28 ?_
    exact g_iret (z := sz) hx hb hr hlk hz hP hL hS dX7_undo_31 (gxi_i ⟨by rw [if_neg (by omega)], (by rw [if_neg (by omega)]; exact ⟨x, t, pa, sn, v, ch, tu, _, _, ⟨hx0, ht0, hpa0, hsn0, hv0, hch0, htu0, hob⟩, ((ha_1 _ (fun h => Or.elim h (fun h3 => by have h4 := h3.1; have h5 := h3.2; omega) (fun h3 => by have h4 := h3.1; have h5 := h3.2; omega))).trans ho0), hSt, ⟨_, _, _, _, hTx⟩, hPa, ((ha_1 _ (fun h => Or.elim h (fun h3 => by have h4 := h3.1; have h5 := h3.2; omega) (fun h3 => by have h4 := h3.1; have h5 := h3.2; omega))).trans hsn), ⟨_, _, _, _, hVo⟩, ⟨_, _, _, hCh⟩, ⟨_, hTu⟩, hPl, (fun k hk => hg k (by omega)), hkp, htn, by omega⟩), rfl, hag⟩)
  · refine lv_bipush (v := (-5)) hx hb dX7_undo_10 (by decide) ?_
    exact g_iret (z := sz) hx hb hr hlk hz hP hL hS dX7_undo_12 (gxi_i ⟨by rw [if_pos (by omega)], (by rw [if_pos (by omega), show P - 1 = P by omega]; exact ⟨x, t, pa, sn, v, ch, tu, _, _, ⟨hx0, ht0, hpa0, hsn0, hv0, hch0, htu0, hob⟩, ho0, hSt, ⟨_, _, _, _, hTx⟩, hPa, hsn, ⟨_, _, _, _, hVo⟩, ⟨_, _, _, hCh⟩, ⟨_, hTu⟩, hPl, hg, hkp, htn, hP5⟩), rfl, hag⟩)

set_option maxHeartbeats 4000000 in
set_option maxRecDepth 100000 in
theorem c_X7_readN (l : Launch) (o b : Nat) (S : sS) (tf : Nat → Int32) (tn P : Nat) (C : Nat → sS) (kp : Nat → Bool) (zp : Nat) (σ : gS) (sz : Nat) (hW : Wo σ o b S tf tn P C kp zp) (hok : okS S) (hff : ¬ ffI tf tn < 0) : gM l yX7_read wsX7_read ({ frames := 6, cells := 0, slots := 0, locals := 131 } : Room) 0 0 [.ref o] σ sz (gxi (fun r τ n => r = -100 - ffI tf tn ∧ Wo τ o b S tf tn P C kp zp ∧ n = sz ∧ gAs (gZo o 39) σ τ)) := by
  refine gM_of (cc := cX7_read) (maxL := 2) (ret := (some .int)) (by decide) rfl (Nat.le_of_ble_eq_true rfl) ?_
  intro D ka lo hL hlo p e s m below meth c hx hb hr hts hown hml hlk hnm hK H locs ls hz hP hS hl
  have hl : lv_has ls 2 [(0, .ref o)] := hl
  have hown : s.vm.findClass RX7 = some m.cls := hown
  obtain ⟨x, t, pa, sn, v, ch, tu, g, sg, ⟨hx0, ht0, hpa0, hsn0, hv0, hch0, htu0, hob⟩, ho0, hSt, ⟨ta, tso, tld, tti, hTx⟩, hPa, hsn, ⟨vd, vf, vb, vw, hVo⟩, ⟨ca, cb, cd, hCh⟩, ⟨lf, hTu⟩, hPl, hg, hkp, htn, hP5⟩ := hW
  obtain ⟨hB, hN, hKs, hRs⟩ := hok
  have hbz := hPl.1
  have hag : gAs (gZo o 39) σ σ := gAs.rf
  refine lv_aload_n hx hb dX7_read_0 rfl (lv_at hl 0 rfl) ?_
  refine g_get (C := RX7) (T := TX7) (N := 7) hx hb hts hown hK hP ho0 nX7_read_X7 rfl 1 (by decide) (by decide +kernel) rfl (v := .ref t) rfl dX7_read_1 ?_
  refine g_runV (As := []) (rest := []) (own := RX7) (C := RX3) (T := TX3) (N := 6) 0 hx hb hml hown hts hK hz hP hL hS hlo hl.1 (c_X3_findFault l t tf tn ta tso tld tti σ sz hTx (by omega)) gX7_read_X3_findFault rfl rfl rfl (by decide +kernel) ⟨Nat.le_of_ble_eq_true rfl, Nat.le_of_ble_eq_true rfl⟩ hTx.c0 rfl rfl rfl (Nat.le_of_ble_eq_true rfl) dX7_read_4 ⟨Nat.le_of_ble_eq_true rfl, Nat.le_of_ble_eq_true rfl⟩ (g_kxi0 (fun r_1 τ_1 H locs z1 hz hp hP hL hS => ?_))
  obtain ⟨hr_1, hz1, ⟨a_1, so_1, ld_1, ti_1, ht_1⟩, ha_1⟩ := hp
  have hz := hz.trans hz1
  have hSt := hSt.fr (τ := τ_1) (fun q h1 h2 => ha_1 q (fun h => by have h3 := h.1; have h4 := h.2; omega))
  have hPa := hPa.fr (τ := τ_1) (fun q h1 h2 => ha_1 q (fun h => by have h3 := h.1; have h4 := h.2; omega))
  have hVo := hVo.fr (τ := τ_1) (fun q h1 h2 => ha_1 q (fun h => by have h3 := h.1; have h4 := h.2; omega))
  have hCh := hCh.fr (τ := τ_1) (fun q h1 h2 => ha_1 q (fun h => by have h3 := h.1; have h4 := h.2; omega))
  have hTu := hTu.fr (τ := τ_1) (fun q h1 h2 => ha_1 q (fun h => by have h3 := h.1; have h4 := h.2; omega))
  have hPl := hPl.fr (τ := τ_1) (fun q h1 h2 => ha_1 q (fun h => by have h3 := h.1; have h4 := h.2; omega))
  have hTx := ht_1
  have hag := hag.tr ha_1 (fun q h => ⟨by have h3 := h.1; omega, by have h3 := h.2; omega⟩)
  subst hr_1
  refine lv_istore_n (lv' := [(1, .int (ffI tf tn)), (0, .ref o)]) hx hb dX7_read_7 rfl hl (by decide) rfl (fun ls hl => ?_)
  refine lv_iload_n hx hb dX7_read_8 rfl (lv_at hl 0 rfl) ?_
  refine lv_if_lt (tgt := 17) hx hb dX7_read_9 (by decide) (fun c9 => ?_) (fun c9 => ?_)
  · exact absurd c9 hff
  · refine lv_bipush (v := (-100)) hx hb dX7_read_12 (by decide) ?_
    refine lv_iload_n hx hb dX7_read_14 rfl (lv_at hl 0 rfl) ?_
    refine lv_isub hx hb dX7_read_15 ?_
    exact g_iret (z := sz) hx hb hr hlk hz hP hL hS dX7_read_16 (gxi_i ⟨rfl, ⟨x, t, pa, sn, v, ch, tu, _, _, ⟨hx0, ht0, hpa0, hsn0, hv0, hch0, htu0, hob⟩, ((ha_1 _ (fun h => by have h3 := h.1; have h4 := h.2; omega)).trans ho0), hSt, ⟨_, _, _, _, hTx⟩, hPa, ((ha_1 _ (fun h => by have h3 := h.1; have h4 := h.2; omega)).trans hsn), ⟨_, _, _, _, hVo⟩, ⟨_, _, _, hCh⟩, ⟨_, hTu⟩, hPl, hg, hkp, htn, hP5⟩, rfl, hag⟩)

set_option maxHeartbeats 4000000 in
set_option maxRecDepth 100000 in
theorem c_X1_recordf (l : Launch) (pa b x P : Nat) (g sg : Nat → Option Nat) (C : Nat → sS) (S : sS) (zp : Nat) (σ : gS) (sz : Nat) (hPa : PaAt σ pa P g) (hPl : PlAt σ b g sg C zp) (hzp : zp ≤ sz) (hb0 : pa + 2 ≤ b) (hSt : StAt σ x S) (hxb : x + 17 ≤ b) (hxp : x + 17 ≤ pa ∨ pa + 2 ≤ x) (hP5 : P ≤ 5) (hg : ∀ k : Nat, k < P → ∃ y, g k = some y) (hok : okS S) : gM l yX1_record wsX1_record ({ frames := 3, cells := 17, slots := 789, locals := 64 } : Room) 17 789 [.ref pa, .ref x] σ sz (gxv (fun τ n => ∃ g2 : Nat → Option Nat, sz ≤ n ∧ n ≤ sz + 17 ∧ PaAt τ pa (recP P) g2 ∧ PlAt τ b g2 sg (recS C P S) n ∧ (∀ k : Nat, k < recP P → ∃ y, g2 k = some y) ∧ StAt τ x S ∧ gAs (fun q => gZo pa 2 q ∨ (b ≤ q ∧ q < zp) ∨ sz ≤ q) σ τ)) := by
  refine gM_of (cc := cX1_record) (maxL := 3) (ret := none) (by decide) rfl (Nat.le_of_ble_eq_true rfl) ?_
  intro D ka lo hL hlo p e s m below meth c hx hb hr hts hown hml hlk hnm hK H locs ls hz hP hS hl
  have hl : lv_has ls 3 [(0, .ref pa), (1, .ref x)] := hl
  have hown : s.vm.findClass RX1 = some m.cls := hown
  have hag : gAs (fun q => gZo pa 2 q ∨ (b ≤ q ∧ q < zp) ∨ sz ≤ q) σ σ := gAs.rf
  have hbz := hPl.1
  obtain ⟨hB, hN, hKs, hRs⟩ := hok
  refine lv_aload_n hx hb dX1_record_0 rfl (lv_at hl 0 rfl) ?_
  refine g_get (C := RX1) (T := TX1) (N := 2) hx hb hts hown hK hP hPa.c0 nX1_record_X1 rfl 1 (by decide) (by decide +kernel) rfl (v := .int (nI P)) rfl dX1_record_1 ?_
  refine lv_aload_n hx hb dX1_record_4 rfl (lv_at hl 0 rfl) ?_
  refine g_get (C := RX1) (T := TX1) (N := 2) hx hb hts hown hK hP hPa.c0 nX1_record_X1 rfl 0 (by decide) (by decide +kernel) rfl (v := .ref (pa + 1)) rfl dX1_record_5 ?_
  refine g_aalen hx hb hK hP hPa.c1 dX1_record_8 ?_
  refine g_icmp_lt (tgt := 16) (a := P) (b := 5) hx hb (by omega) (by omega) dX1_record_9 (by decide) (fun c9 => ?_) (fun c9 => ?_)
  · refine lv_aload_n hx hb dX1_record_16 rfl (lv_at hl 0 rfl) ?_
    refine g_get (C := RX1) (T := TX1) (N := 2) hx hb hts hown hK hP hPa.c0 nX1_record_X1 rfl 1 (by decide) (by decide +kernel) rfl (v := .int (nI P)) rfl dX1_record_17 ?_
    refine g_if_lt hx hb (by omega) dX1_record_20 (tgt := 35) (by decide) ?_
    refine lv_aload_n hx hb dX1_record_23 rfl (lv_at hl 0 rfl) ?_
    refine g_get (C := RX1) (T := TX1) (N := 2) hx hb hts hown hK hP hPa.c0 nX1_record_X1 rfl 1 (by decide) (by decide +kernel) rfl (v := .int (nI P)) rfl dX1_record_24 ?_
    refine lv_aload_n hx hb dX1_record_27 rfl (lv_at hl 0 rfl) ?_
    refine g_get (C := RX1) (T := TX1) (N := 2) hx hb hts hown hK hP hPa.c0 nX1_record_X1 rfl 0 (by decide) (by decide +kernel) rfl (v := .ref (pa + 1)) rfl dX1_record_28 ?_
    refine g_aalen hx hb hK hP hPa.c1 dX1_record_31 ?_
    refine g_icmp_lt (tgt := 36) (a := P) (b := 5) hx hb (by omega) (by omega) dX1_record_32 (by decide) (fun c32 => ?_) (fun c32 => ?_)
    · refine lv_aload_n hx hb dX1_record_36 rfl (lv_at hl 0 rfl) ?_
      refine g_get (C := RX1) (T := TX1) (N := 2) hx hb hts hown hK hP hPa.c0 nX1_record_X1 rfl 0 (by decide) (by decide +kernel) rfl (v := .ref (pa + 1)) rfl dX1_record_37 ?_
      refine lv_aload_n hx hb dX1_record_40 rfl (lv_at hl 0 rfl) ?_
      refine g_get (C := RX1) (T := TX1) (N := 2) hx hb hts hown hK hP hPa.c0 nX1_record_X1 rfl 1 (by decide) (by decide +kernel) rfl (v := .int (nI P)) rfl dX1_record_41 ?_
      refine g_aald hx hb hK hP hPa.c1 (i := nI P) (vp_in_nI (by omega) (by omega)) dX1_record_44 ?_
      rw [nI_clamp (n := P) (by omega)]
      rcases hy_1 : g P with _ | y_1
      · skip
        refine lv_astore_nN (lv' := [(2, .null), (0, .ref pa), (1, .ref x)]) hx hb dX1_record_45 rfl hl (by decide) rfl (fun ls hl => ?_)
        refine lv_aload_nN hx hb dX1_record_46 rfl (lv_at hl 0 rfl) ?_
        refine lv_ifnonnullN hx hb dX1_record_47 ?_
        refine g_new (C := RX4) (T := TX4) (N := 13) (ci := 4) (fs := [.int (0), .int (0), .int (0), .int (0), .int (0), .null, .null, .null, .null, .null, .null, .null, .null]) hx hb hts hown hK hz hP hL hS hlo nX1_record_X4 tyX4 tyX4_ok rfl (by decide +kernel) (by decide +kernel) (by decide +kernel) rfl (Nat.le_of_ble_eq_true rfl) (Nat.le_of_ble_eq_true rfl) dX1_record_50 (fun H hz hP hL hS => ?_)
        have hlo : lo ≤ sz + 1 := Nat.le_succ_of_le hlo
        obtain ⟨σ2, e2⟩ : ∃ υ0 : gS, υ0 = gup σ sz (gO 4 [.int (0), .int (0), .int (0), .int (0), .int (0), .null, .null, .null, .null, .null, .null, .null, .null]) := ⟨_, rfl⟩
        have hP : gH D ka σ2 H := by rw [e2]; exact hP
        have hL : gL lo σ2 := by rw [e2]; exact hL
        have hPa := hPa.fr (τ := σ2) (fun q h1 h2 => gup_eq e2 (by omega))
        have hPl := hPl.fr (τ := σ2) (fun q h1 h2 => gup_eq e2 (by omega))
        have hSt := hSt.fr (τ := σ2) (fun q h1 h2 => gup_eq e2 (by omega))
        have hag := hag.upe e2 (.inr (.inr (by omega)))
        refine lv_dup hx hb dX1_record_53 rfl ?_
        refine g_runI (b := sz) (As := []) (rest := [.ref sz]) (own := RX1) 0 hx hb hml hown hts hK hz hP hL hS hlo hl.1 (c_X4_init l sz σ2 (gup_here e2)) gX1_record_X4_init rfl rfl rfl (by decide +kernel) (by decide +kernel) (by decide +kernel) rfl (by decide +kernel) ⟨Nat.le_of_ble_eq_true rfl, Nat.le_of_ble_eq_true rfl⟩ rfl rfl (Nat.le_of_ble_eq_true rfl) dX1_record_54 ⟨Nat.le_of_ble_eq_true rfl, Nat.le_of_ble_eq_true rfl⟩ (g_kxv (fun τ_3 H locs z1 hz hp hP hL hS => ?_))
        obtain ⟨hz1, h_4n, h_4a⟩ := hp
        have hz := hz.trans hz1
        have hPa := hPa.fr (τ := τ_3) (fun q h1 h2 => h_4a q (fun h => by have h3 := h.1; have h4 := h.2; omega))
        have hPl := hPl.fr (τ := τ_3) (fun q h1 h2 => h_4a q (fun h => by have h3 := h.1; have h4 := h.2; omega))
        have hSt := hSt.fr (τ := τ_3) (fun q h1 h2 => h_4a q (fun h => by have h3 := h.1; have h4 := h.2; omega))
        have hSsz := h_4n
        have hag := hag.tr h_4a (fun q h => .inr (.inr (by have h1 := h.1; omega)))
        have hlo : lo ≤ (sz + 17) := by omega
        refine lv_astore_n (lv' := [(2, .ref sz), (0, .ref pa), (1, .ref x)]) hx hb dX1_record_57 rfl hl (by decide) rfl (fun ls hl => ?_)
        refine lv_aload_n hx hb dX1_record_58 rfl (lv_at hl 1 rfl) ?_
        refine g_get (C := RX1) (T := TX1) (N := 2) hx hb hts hown hK hP hPa.c0 nX1_record_X1 rfl 0 (by decide) (by decide +kernel) rfl (v := .ref (pa + 1)) rfl dX1_record_59 ?_
        refine lv_aload_n hx hb dX1_record_62 rfl (lv_at hl 1 rfl) ?_
        refine g_get (C := RX1) (T := TX1) (N := 2) hx hb hts hown hK hP hPa.c0 nX1_record_X1 rfl 1 (by decide) (by decide +kernel) rfl (v := .int (nI P)) rfl dX1_record_63 ?_
        refine lv_aload_n hx hb dX1_record_66 rfl (lv_at hl 0 rfl) ?_
        refine g_aast hx hb hK hP hL hS hPa.c1 (i := nI P) hSsz.c0 (vp_in_nI (by omega) (by omega)) dX1_record_67 (fun H locs hq hP hL hS => ?_)
        rw [nI_clamp (n := P) (by omega)] at hP hL
        have hz := hq.trans hz
        obtain ⟨σ5, e5⟩ : ∃ υ0 : gS, υ0 = gup τ_3 (pa + 1) (gR 5 (va_up g P (some sz))) := ⟨_, rfl⟩
        have hP : gH D ka σ5 H := by rw [e5]; exact hP
        have hL : gL lo σ5 := by rw [e5]; exact hL
        have hPl := hPl.fr (τ := σ5) (fun q h1 h2 => gup_eq e5 (by omega))
        have hSt := hSt.fr (τ := σ5) (fun q h1 h2 => gup_eq e5 (by omega))
        have hSsz := hSsz.fr (τ := σ5) (fun q h1 h2 => gup_eq e5 (by omega))
        have hPa : PaAt σ5 pa P (va_up g P (some sz)) := by rw [e5]; exact hPa.w1 (va_up g P (some sz))
        have hag := hag.upe e5 (.inl (zo_k (by decide)))
        refine lv_aload_n hx hb dX1_record_68 rfl (lv_at hl 0 rfl) ?_
        refine lv_aload_n hx hb dX1_record_69 rfl (lv_at hl 2 rfl) ?_
        refine g_runV (As := [.ref x]) (rest := []) (own := RX1) (C := RX4) (T := TX4) (N := 13) 1 hx hb hml hown hts hK hz hP hL hS hlo hl.1 (c_X4_copyFrom l sz x s0S S σ5 ((sz + 17)) hSsz hSt (by omega) (by omega) (by omega) (by omega) (by omega)) gX1_record_X4_copyFrom rfl rfl rfl (by decide +kernel) ⟨Nat.le_of_ble_eq_true rfl, Nat.le_of_ble_eq_true rfl⟩ hSsz.c0 rfl rfl rfl (Nat.le_of_ble_eq_true rfl) dX1_record_70 ⟨Nat.le_of_ble_eq_true rfl, Nat.le_of_ble_eq_true rfl⟩ (g_kxv0 (fun τ_6 H locs z1 hz hp hP hL hS => ?_))
        obtain ⟨hz1, h_7n, h_7a⟩ := hp
        have hz := hz.trans hz1
        have hPa := hPa.fr (τ := τ_6) (fun q h1 h2 => h_7a q (fun h => by have h3 := h.1; have h4 := h.2; omega))
        have hPl := hPl.fr (τ := τ_6) (fun q h1 h2 => h_7a q (fun h => by have h3 := h.1; have h4 := h.2; omega))
        have hSt := hSt.fr (τ := τ_6) (fun q h1 h2 => h_7a q (fun h => by have h3 := h.1; have h4 := h.2; omega))
        have hSsz := h_7n
        have hag := hag.tr h_7a (fun q h => .inr (.inr (by have h1 := h.1; omega)))
        have hPl := hPl.up hzp
        have hPl := hPl.newg (k := P) (by omega) hSsz
        refine lv_aload_n hx hb dX1_record_73 rfl (lv_at hl 1 rfl) ?_
        refine lv_dup hx hb dX1_record_74 rfl ?_
        refine g_get (C := RX1) (T := TX1) (N := 2) hx hb hts hown hK hP hPa.c0 nX1_record_X1 rfl 1 (by decide) (by decide +kernel) rfl (v := .int (nI P)) rfl dX1_record_75 ?_
        refine lv_iconst (v := (nI 1)) hx hb dX1_record_78 (by decide) ?_
        refine lv_iadd hx hb dX1_record_79 ?_
        refine g_top (nI_add P 1) ?_
        refine g_put (C := RX1) (T := TX1) (N := 2) hx hb hts hown hK hP hL hS hPa.c0 nX1_record_X1 tyX1 tyX1_ok nmX1 rfl 1 (by decide) (by decide +kernel) rfl rfl (v := .int (nI (P + 1))) rfl rfl (Nat.le_of_ble_eq_true rfl) dX1_record_80 (fun H locs hq hP hL hS => ?_)
        have hz := hq.trans hz
        obtain ⟨σ8, e8⟩ : ∃ υ0 : gS, υ0 = gup τ_6 pa (gO 1 [.ref (pa + 1), .int (nI (P + 1))]) := ⟨_, rfl⟩
        have hP : gH D ka σ8 H := by rw [e8]; exact hP
        have hL : gL lo σ8 := by rw [e8]; exact hL
        have hPl := hPl.fr (τ := σ8) (fun q h1 h2 => gup_eq e8 (by omega))
        have hSt := hSt.fr (τ := σ8) (fun q h1 h2 => gup_eq e8 (by omega))
        have hPa : PaAt σ8 pa (P + 1) (va_up g P (some sz)) := by rw [e8]; exact hPa.p1 (P + 1)
        have hag := hag.upe e8 (.inl (zo_0 (by decide)))
        refine W.widen (k := 17) (n := 789) (Nat.le_of_ble_eq_true rfl) (Nat.le_of_ble_eq_true rfl) ?_
        exact g_vret (z := (sz + 17)) hx hb hr hlk hz hP hL hS dX1_record_83 (gxv_i ⟨_, by omega, Nat.le_refl _, (by rw [recP_t c9]; exact hPa), (by rw [recS_t _ _ c9]; exact hPl), (fun k hk => by rw [recP_t c9] at hk; by_cases c : k = P; exact ⟨sz, by rw [c, va_up_s]⟩; exact (by rw [va_up_n c]; exact hg k (by omega))), hSt, hag⟩)
      · skip
        obtain ⟨y_11, y_12, hSy_1⟩ := hPl.g (by omega) hy_1
        refine lv_astore_n (lv' := [(2, .ref y_1), (0, .ref pa), (1, .ref x)]) hx hb dX1_record_45 rfl hl (by decide) rfl (fun ls hl => ?_)
        refine lv_aload_n hx hb dX1_record_46 rfl (lv_at hl 0 rfl) ?_
        refine lv_ifnonnull (tgt := 68) hx hb dX1_record_47 (by decide) ?_
        refine lv_aload_n hx hb dX1_record_68 rfl (lv_at hl 0 rfl) ?_
        refine lv_aload_n hx hb dX1_record_69 rfl (lv_at hl 2 rfl) ?_
        refine g_runV (As := [.ref x]) (rest := []) (own := RX1) (C := RX4) (T := TX4) (N := 13) 1 hx hb hml hown hts hK hz hP hL hS hlo hl.1 (c_X4_copyFrom l y_1 x (C P) S σ sz hSy_1 hSt (by omega) (by omega) (by omega) (by omega) (by omega)) gX1_record_X4_copyFrom rfl rfl rfl (by decide +kernel) ⟨Nat.le_of_ble_eq_true rfl, Nat.le_of_ble_eq_true rfl⟩ hSy_1.c0 rfl rfl rfl (Nat.le_of_ble_eq_true rfl) dX1_record_70 ⟨Nat.le_of_ble_eq_true rfl, Nat.le_of_ble_eq_true rfl⟩ (g_kxv0 (fun τ_9 H locs z1 hz hp hP hL hS => ?_))
        obtain ⟨hz1, h_10n, h_10a⟩ := hp
        have hz := hz.trans hz1
        have hPa := hPa.fr (τ := τ_9) (fun q h1 h2 => h_10a q (fun h => by have h3 := h.1; have h4 := h.2; omega))
        have hSt := hSt.fr (τ := τ_9) (fun q h1 h2 => h_10a q (fun h => by have h3 := h.1; have h4 := h.2; omega))
        have hSy_1 := h_10n
        have hag := hag.tr h_10a (fun q h => .inr (.inl ⟨by have h1 := h.1; omega, by have h2 := h.2; omega⟩))
        have hPl := hPl.set (k := P) (by omega) (by rw [pk_g (by omega)]; exact hy_1) hSy_1 h_10a
        have hPl := hPl.up hzp
        refine lv_aload_n hx hb dX1_record_73 rfl (lv_at hl 1 rfl) ?_
        refine lv_dup hx hb dX1_record_74 rfl ?_
        refine g_get (C := RX1) (T := TX1) (N := 2) hx hb hts hown hK hP hPa.c0 nX1_record_X1 rfl 1 (by decide) (by decide +kernel) rfl (v := .int (nI P)) rfl dX1_record_75 ?_
        refine lv_iconst (v := (nI 1)) hx hb dX1_record_78 (by decide) ?_
        refine lv_iadd hx hb dX1_record_79 ?_
        refine g_top (nI_add P 1) ?_
        refine g_put (C := RX1) (T := TX1) (N := 2) hx hb hts hown hK hP hL hS hPa.c0 nX1_record_X1 tyX1 tyX1_ok nmX1 rfl 1 (by decide) (by decide +kernel) rfl rfl (v := .int (nI (P + 1))) rfl rfl (Nat.le_of_ble_eq_true rfl) dX1_record_80 (fun H locs hq hP hL hS => ?_)
        have hz := hq.trans hz
        obtain ⟨σ11, e11⟩ : ∃ υ0 : gS, υ0 = gup τ_9 pa (gO 1 [.ref (pa + 1), .int (nI (P + 1))]) := ⟨_, rfl⟩
        have hP : gH D ka σ11 H := by rw [e11]; exact hP
        have hL : gL lo σ11 := by rw [e11]; exact hL
        have hSt := hSt.fr (τ := σ11) (fun q h1 h2 => gup_eq e11 (by omega))
        have hPl := hPl.fr (τ := σ11) (fun q h1 h2 => gup_eq e11 (by omega))
        have hPa : PaAt σ11 pa (P + 1) g := by rw [e11]; exact hPa.p1 (P + 1)
        have hag := hag.upe e11 (.inl (zo_0 (by decide)))
        refine W.widen (k := 17) (n := 789) (Nat.le_of_ble_eq_true rfl) (Nat.le_of_ble_eq_true rfl) ?_
        exact g_vret (z := sz) hx hb hr hlk hz hP hL hS dX1_record_83 (gxv_i ⟨_, Nat.le_refl _, Nat.le_add_right _ _, (by rw [recP_t c9]; exact hPa), (by rw [recS_t _ _ c9]; exact hPl), (fun k hk => by rw [recP_t c9] at hk; by_cases c : k = P; exact ⟨y_1, by rw [c]; exact hy_1⟩; exact hg k (by omega)), hSt, hag⟩)
    · exact False.elim (by omega)
  · refine lv_aload_n hx hb dX1_record_12 rfl (lv_at hl 0 rfl) ?_
    have hPl0 := hPl
    have hPl := hPl.up hzp
    refine g_runV (As := []) (rest := []) (own := RX1) (C := RX1) (T := TX1) (N := 2) 0 hx hb hml hown hts hK hz hP hL hS hlo hl.1 (c_X1_forgetOldest l pa b P g sg C σ sz hPa hPl (by omega) (by omega) (fun k hk => hg k (by omega))) gX1_record_X1_forgetOldest rfl rfl rfl (by decide +kernel) ⟨Nat.le_of_ble_eq_true rfl, Nat.le_of_ble_eq_true rfl⟩ hPa.c0 rfl rfl rfl (Nat.le_of_ble_eq_true rfl) dX1_record_13 ⟨Nat.le_of_ble_eq_true rfl, Nat.le_of_ble_eq_true rfl⟩ (g_kxv0 (fun τ_12 H locs z1 hz hp hP hL hS => ?_))
    obtain ⟨hz1, h_13n, h_13p, h_13a⟩ := hp
    have hz := hz.trans hz1
    have hSt := hSt.fr (τ := τ_12) (fun q h1 h2 => h_13a q (fun h => by have h3 := h.1; have h4 := h.2; omega))
    have hPa := h_13n
    have hag := hag.tr h_13a (fun q h => .inl h)
    have hPl := h_13p
    refine lv_aload_n hx hb dX1_record_16 rfl (lv_at hl 0 rfl) ?_
    refine g_get (C := RX1) (T := TX1) (N := 2) hx hb hts hown hK hP hPa.c0 nX1_record_X1 rfl 1 (by decide) (by decide +kernel) rfl (v := .int (nI (P - 1))) rfl dX1_record_17 ?_
    refine g_if_lt hx hb (by omega) dX1_record_20 (tgt := 35) (by decide) ?_
    refine lv_aload_n hx hb dX1_record_23 rfl (lv_at hl 0 rfl) ?_
    refine g_get (C := RX1) (T := TX1) (N := 2) hx hb hts hown hK hP hPa.c0 nX1_record_X1 rfl 1 (by decide) (by decide +kernel) rfl (v := .int (nI (P - 1))) rfl dX1_record_24 ?_
    refine lv_aload_n hx hb dX1_record_27 rfl (lv_at hl 0 rfl) ?_
    refine g_get (C := RX1) (T := TX1) (N := 2) hx hb hts hown hK hP hPa.c0 nX1_record_X1 rfl 0 (by decide) (by decide +kernel) rfl (v := .ref (pa + 1)) rfl dX1_record_28 ?_
    refine g_aalen hx hb hK hP hPa.c1 dX1_record_31 ?_
    refine g_icmp_lt (tgt := 36) (a := P - 1) (b := 5) hx hb (by omega) (by omega) dX1_record_32 (by decide) (fun c32 => ?_) (fun c32 => ?_)
    · refine lv_aload_n hx hb dX1_record_36 rfl (lv_at hl 0 rfl) ?_
      refine g_get (C := RX1) (T := TX1) (N := 2) hx hb hts hown hK hP hPa.c0 nX1_record_X1 rfl 0 (by decide) (by decide +kernel) rfl (v := .ref (pa + 1)) rfl dX1_record_37 ?_
      refine lv_aload_n hx hb dX1_record_40 rfl (lv_at hl 0 rfl) ?_
      refine g_get (C := RX1) (T := TX1) (N := 2) hx hb hts hown hK hP hPa.c0 nX1_record_X1 rfl 1 (by decide) (by decide +kernel) rfl (v := .int (nI (P - 1))) rfl dX1_record_41 ?_
      refine g_aald hx hb hK hP hPa.c1 (i := nI (P - 1)) (vp_in_nI (by omega) (by omega)) dX1_record_44 ?_
      rw [nI_clamp (n := P - 1) (by omega)]
      obtain ⟨y, hy0⟩ := hg 0 (by omega)
      have hy : rtF g 4 (P - 1) = some y := by rw [show P - 1 = 4 by omega]; exact hy0
      have yz := (hPl0.g (k := 0) (by omega) hy0).2.1
      rw [hy]
      obtain ⟨y1, y2, hSy⟩ := hPl.g (by omega) hy
      refine lv_astore_n (lv' := [(2, .ref y), (0, .ref pa), (1, .ref x)]) hx hb dX1_record_45 rfl hl (by decide) rfl (fun ls hl => ?_)
      refine lv_aload_n hx hb dX1_record_46 rfl (lv_at hl 0 rfl) ?_
      refine lv_ifnonnull (tgt := 68) hx hb dX1_record_47 (by decide) ?_
      refine lv_aload_n hx hb dX1_record_68 rfl (lv_at hl 0 rfl) ?_
      refine lv_aload_n hx hb dX1_record_69 rfl (lv_at hl 2 rfl) ?_
      refine g_runV (As := [.ref x]) (rest := []) (own := RX1) (C := RX4) (T := TX4) (N := 13) 1 hx hb hml hown hts hK hz hP hL hS hlo hl.1 (c_X4_copyFrom l y x (rtF C 4 (P - 1)) S τ_12 sz hSy hSt (by omega) (by omega) (by omega) (by omega) (by omega)) gX1_record_X4_copyFrom rfl rfl rfl (by decide +kernel) ⟨Nat.le_of_ble_eq_true rfl, Nat.le_of_ble_eq_true rfl⟩ hSy.c0 rfl rfl rfl (Nat.le_of_ble_eq_true rfl) dX1_record_70 ⟨Nat.le_of_ble_eq_true rfl, Nat.le_of_ble_eq_true rfl⟩ (g_kxv0 (fun τ_14 H locs z1 hz hp hP hL hS => ?_))
      obtain ⟨hz1, h_15n, h_15a⟩ := hp
      have hz := hz.trans hz1
      have hPa := hPa.fr (τ := τ_14) (fun q h1 h2 => h_15a q (fun h => by have h3 := h.1; have h4 := h.2; omega))
      have hSt := hSt.fr (τ := τ_14) (fun q h1 h2 => h_15a q (fun h => by have h3 := h.1; have h4 := h.2; omega))
      have hSy := h_15n
      have hag := hag.tr h_15a (fun q h => .inr (.inl ⟨by have h1 := h.1; omega, by have h2 := h.2; omega⟩))
      have hPl := hPl.set (k := P - 1) (by omega) (by rw [pk_g (by omega)]; exact hy) hSy h_15a
      refine lv_aload_n hx hb dX1_record_73 rfl (lv_at hl 1 rfl) ?_
      refine lv_dup hx hb dX1_record_74 rfl ?_
      refine g_get (C := RX1) (T := TX1) (N := 2) hx hb hts hown hK hP hPa.c0 nX1_record_X1 rfl 1 (by decide) (by decide +kernel) rfl (v := .int (nI (P - 1))) rfl dX1_record_75 ?_
      refine lv_iconst (v := (nI 1)) hx hb dX1_record_78 (by decide) ?_
      refine lv_iadd hx hb dX1_record_79 ?_
      refine g_top (nI_add (P - 1) 1) ?_
      refine g_put (C := RX1) (T := TX1) (N := 2) hx hb hts hown hK hP hL hS hPa.c0 nX1_record_X1 tyX1 tyX1_ok nmX1 rfl 1 (by decide) (by decide +kernel) rfl rfl (v := .int (nI ((P - 1) + 1))) rfl rfl (Nat.le_of_ble_eq_true rfl) dX1_record_80 (fun H locs hq hP hL hS => ?_)
      have hz := hq.trans hz
      obtain ⟨σ16, e16⟩ : ∃ υ0 : gS, υ0 = gup τ_14 pa (gO 1 [.ref (pa + 1), .int (nI ((P - 1) + 1))]) := ⟨_, rfl⟩
      have hP : gH D ka σ16 H := by rw [e16]; exact hP
      have hL : gL lo σ16 := by rw [e16]; exact hL
      have hSt := hSt.fr (τ := σ16) (fun q h1 h2 => gup_eq e16 (by omega))
      have hPl := hPl.fr (τ := σ16) (fun q h1 h2 => gup_eq e16 (by omega))
      have hPa : PaAt σ16 pa ((P - 1) + 1) (rtF g 4) := by rw [e16]; exact hPa.p1 ((P - 1) + 1)
      have hag := hag.upe e16 (.inl (zo_0 (by decide)))
      refine W.widen (k := 17) (n := 789) (Nat.le_of_ble_eq_true rfl) (Nat.le_of_ble_eq_true rfl) ?_
      exact g_vret (z := sz) hx hb hr hlk hz hP hL hS dX1_record_83 (gxv_i ⟨_, Nat.le_refl _, Nat.le_add_right _ _, (by rw [recP_f c9 hP5]; exact hPa), (by rw [recS_f _ _ c9 hP5]; exact hPl), (fun k hk => by rw [recP_f c9 hP5] at hk; rw [rot_p]; exact hg _ (Nat.lt_of_lt_of_le (rotp_lt (m := 5) (by omega) (by omega)) (by omega))), hSt, hag⟩)
    · exact False.elim (by omega)

def Zr (o b zp sz : Nat) : Nat → Prop := fun a => gZo o 39 a ∨ (b ≤ a ∧ a < zp) ∨ sz ≤ a

set_option maxHeartbeats 4000000 in
set_option maxRecDepth 100000 in
theorem c_X7_readY (l : Launch) (o b : Nat) (S : sS) (tf : Nat → Int32) (tn P : Nat) (C : Nat → sS) (kp : Nat → Bool) (zp : Nat) (σ : gS) (sz : Nat) (hW : Wo σ o b S tf tn P C kp zp) (hok : okS S) (hzp : zp ≤ sz) (hff : ffI tf tn < 0) : gM l yX7_read wsX7_read ({ frames := 6, cells := 17, slots := 789, locals := 131 } : Room) 17 789 [.ref o] σ sz (gxi (fun r τ n => r = nI (sB (wrF tf tn 60 0 (clearS S))) ∧ Wo τ o b (wrF tf tn 60 0 (clearS S)) tf tn (recP P) (recS C P S) kp n ∧ sz ≤ n ∧ n ≤ sz + 17 ∧ gAs (Zr o b zp sz) σ τ)) := by
  refine gM_of (cc := cX7_read) (maxL := 2) (ret := (some .int)) (by decide) rfl (Nat.le_of_ble_eq_true rfl) ?_
  intro D ka lo hL hlo p e s m below meth c hx hb hr hts hown hml hlk hnm hK H locs ls hz hP hS hl
  have hl : lv_has ls 2 [(0, .ref o)] := hl
  have hown : s.vm.findClass RX7 = some m.cls := hown
  obtain ⟨x, t, pa, sn, v, ch, tu, g, sg, ⟨hx0, ht0, hpa0, hsn0, hv0, hch0, htu0, hob⟩, ho0, hSt, ⟨ta, tso, tld, tti, hTx⟩, hPa, hsn, ⟨vd, vf, vb, vw, hVo⟩, ⟨ca, cb, cd, hCh⟩, ⟨lf, hTu⟩, hPl, hg, hkp, htn, hP5⟩ := hW
  obtain ⟨hB, hN, hKs, hRs⟩ := hok
  have hbz := hPl.1
  have hag : gAs (Zr o b zp sz) σ σ := gAs.rf
  refine lv_aload_n hx hb dX7_read_0 rfl (lv_at hl 0 rfl) ?_
  refine g_get (C := RX7) (T := TX7) (N := 7) hx hb hts hown hK hP ho0 nX7_read_X7 rfl 1 (by decide) (by decide +kernel) rfl (v := .ref t) rfl dX7_read_1 ?_
  refine g_runV (As := []) (rest := []) (own := RX7) (C := RX3) (T := TX3) (N := 6) 0 hx hb hml hown hts hK hz hP hL hS hlo hl.1 (c_X3_findFault l t tf tn ta tso tld tti σ sz hTx (by omega)) gX7_read_X3_findFault rfl rfl rfl (by decide +kernel) ⟨Nat.le_of_ble_eq_true rfl, Nat.le_of_ble_eq_true rfl⟩ hTx.c0 rfl rfl rfl (Nat.le_of_ble_eq_true rfl) dX7_read_4 ⟨Nat.le_of_ble_eq_true rfl, Nat.le_of_ble_eq_true rfl⟩ (g_kxi0 (fun r_1 τ_1 H locs z1 hz hp hP hL hS => ?_))
  obtain ⟨hr_1, hz1, ⟨a_1, so_1, ld_1, ti_1, ht_1⟩, ha_1⟩ := hp
  have hz := hz.trans hz1
  have hSt := hSt.fr (τ := τ_1) (fun q h1 h2 => ha_1 q (fun h => by have h3 := h.1; have h4 := h.2; omega))
  have hPa := hPa.fr (τ := τ_1) (fun q h1 h2 => ha_1 q (fun h => by have h3 := h.1; have h4 := h.2; omega))
  have hVo := hVo.fr (τ := τ_1) (fun q h1 h2 => ha_1 q (fun h => by have h3 := h.1; have h4 := h.2; omega))
  have hCh := hCh.fr (τ := τ_1) (fun q h1 h2 => ha_1 q (fun h => by have h3 := h.1; have h4 := h.2; omega))
  have hTu := hTu.fr (τ := τ_1) (fun q h1 h2 => ha_1 q (fun h => by have h3 := h.1; have h4 := h.2; omega))
  have hPl := hPl.fr (τ := τ_1) (fun q h1 h2 => ha_1 q (fun h => by have h3 := h.1; have h4 := h.2; omega))
  have hTx := ht_1
  have hag := hag.tr ha_1 (fun q h => .inl ⟨by have h3 := h.1; omega, by have h3 := h.2; omega⟩)
  subst hr_1
  refine lv_istore_n (lv' := [(1, .int (ffI tf tn)), (0, .ref o)]) hx hb dX7_read_7 rfl hl (by decide) rfl (fun ls hl => ?_)
  refine lv_iload_n hx hb dX7_read_8 rfl (lv_at hl 0 rfl) ?_
  refine lv_if_lt (tgt := 17) hx hb dX7_read_9 (by decide) (fun c9 => ?_) (fun c9 => ?_)
  · refine lv_aload_n hx hb dX7_read_17 rfl (lv_at hl 1 rfl) ?_
    refine g_get (C := RX7) (T := TX7) (N := 7) hx hb hts hown hK hP ((ha_1 _ (fun h => by have h3 := h.1; have h4 := h.2; omega)).trans ho0) nX7_read_X7 rfl 2 (by decide) (by decide +kernel) rfl (v := .ref pa) rfl dX7_read_18 ?_
    refine lv_aload_n hx hb dX7_read_21 rfl (lv_at hl 1 rfl) ?_
    refine g_get (C := RX7) (T := TX7) (N := 7) hx hb hts hown hK hP ((ha_1 _ (fun h => by have h3 := h.1; have h4 := h.2; omega)).trans ho0) nX7_read_X7 rfl 0 (by decide) (by decide +kernel) rfl (v := .ref x) rfl dX7_read_22 ?_
    refine g_runV (As := [.ref x]) (rest := []) (own := RX7) (C := RX1) (T := TX1) (N := 2) 1 hx hb hml hown hts hK hz hP hL hS hlo hl.1 (c_X1_recordf l pa b x P g sg C S zp τ_1 sz hPa hPl hzp (by omega) hSt (by omega) (by omega) hP5 hg ⟨by omega, by omega, by omega, by omega⟩) gX7_read_X1_record rfl rfl rfl (by decide +kernel) ⟨Nat.le_of_ble_eq_true rfl, Nat.le_of_ble_eq_true rfl⟩ hPa.c0 rfl rfl rfl (Nat.le_of_ble_eq_true rfl) dX7_read_25 ⟨Nat.le_of_ble_eq_true rfl, Nat.le_of_ble_eq_true rfl⟩ (g_kxv (fun τ_2 H locs z_2 hz hp hP hL hS => ?_))
    obtain ⟨g_2, hzl, hzu, hp_2, hl_2, hg_2, hs_2, ha_2⟩ := hp
    have hTx := hTx.fr (τ := τ_2) (fun q h1 h2 => ha_2 q (fun h => Or.elim h (fun h3 => by have h4 := h3.1; have h5 := h3.2; omega) (fun h3 => Or.elim h3 (fun h4 => by have h5 : b ≤ _ := h4.1; omega) (fun h4 => by have h5 : sz ≤ _ := h4; omega))))
    have hVo := hVo.fr (τ := τ_2) (fun q h1 h2 => ha_2 q (fun h => Or.elim h (fun h3 => by have h4 := h3.1; have h5 := h3.2; omega) (fun h3 => Or.elim h3 (fun h4 => by have h5 : b ≤ _ := h4.1; omega) (fun h4 => by have h5 : sz ≤ _ := h4; omega))))
    have hCh := hCh.fr (τ := τ_2) (fun q h1 h2 => ha_2 q (fun h => Or.elim h (fun h3 => by have h4 := h3.1; have h5 := h3.2; omega) (fun h3 => Or.elim h3 (fun h4 => by have h5 : b ≤ _ := h4.1; omega) (fun h4 => by have h5 : sz ≤ _ := h4; omega))))
    have hTu := hTu.fr (τ := τ_2) (fun q h1 h2 => ha_2 q (fun h => Or.elim h (fun h3 => by have h4 := h3.1; have h5 := h3.2; omega) (fun h3 => Or.elim h3 (fun h4 => by have h5 : b ≤ _ := h4.1; omega) (fun h4 => by have h5 : sz ≤ _ := h4; omega))))
    have hPa := hp_2
    have hSt := hs_2
    have hag := hag.tr ha_2 (fun q h => Or.elim h (fun h3 => .inl ⟨by have h4 := h3.1; omega, by have h4 := h3.2; omega⟩) (fun h3 => .inr h3))
    have hPl := hl_2
    have hlo : lo ≤ z_2 := Nat.le_trans hlo hzl
    refine lv_aload_n hx hb dX7_read_28 rfl (lv_at hl 1 rfl) ?_
    refine g_get (C := RX7) (T := TX7) (N := 7) hx hb hts hown hK hP ((ha_2 _ (fun h => Or.elim h (fun h3 => by have h4 := h3.1; have h5 := h3.2; omega) (fun h3 => Or.elim h3 (fun h4 => by have h5 : b ≤ _ := h4.1; omega) (fun h4 => by have h5 : sz ≤ _ := h4; omega)))).trans ((ha_1 _ (fun h => by have h3 := h.1; have h4 := h.2; omega)).trans ho0)) nX7_read_X7 rfl 0 (by decide) (by decide +kernel) rfl (v := .ref x) rfl dX7_read_29 ?_
    refine g_runV (As := []) (rest := []) (own := RX7) (C := RX4) (T := TX4) (N := 13) 0 hx hb hml hown hts hK hz hP hL hS hlo hl.1 (c_X4_clearScore l x S  τ_2 z_2 hSt ) gX7_read_X4_clearScore rfl rfl rfl (by decide +kernel) ⟨Nat.le_of_ble_eq_true rfl, Nat.le_of_ble_eq_true rfl⟩ hSt.c0 rfl rfl rfl (Nat.le_of_ble_eq_true rfl) dX7_read_32 ⟨Nat.le_of_ble_eq_true rfl, Nat.le_of_ble_eq_true rfl⟩ (g_kxv0 (fun τ_3 H locs z1 hz hp hP hL hS => ?_))
    obtain ⟨hz1, h_4n, h_4a⟩ := hp
    have hz := hz.trans hz1
    have hTx := hTx.fr (τ := τ_3) (fun q h1 h2 => h_4a q (fun h => by have h3 := h.1; have h4 := h.2; omega))
    have hPa := hPa.fr (τ := τ_3) (fun q h1 h2 => h_4a q (fun h => by have h3 := h.1; have h4 := h.2; omega))
    have hVo := hVo.fr (τ := τ_3) (fun q h1 h2 => h_4a q (fun h => by have h3 := h.1; have h4 := h.2; omega))
    have hCh := hCh.fr (τ := τ_3) (fun q h1 h2 => h_4a q (fun h => by have h3 := h.1; have h4 := h.2; omega))
    have hTu := hTu.fr (τ := τ_3) (fun q h1 h2 => h_4a q (fun h => by have h3 := h.1; have h4 := h.2; omega))
    have hPl := hPl.fr (τ := τ_3) (fun q h1 h2 => h_4a q (fun h => by have h3 := h.1; have h4 := h.2; omega))
    have hSt := h_4n
    have hag := hag.tr h_4a (fun q h => .inl ⟨by have h3 := h.1; omega, by have h3 := h.2; omega⟩)
    refine lv_aload_n hx hb dX7_read_35 rfl (lv_at hl 1 rfl) ?_
    refine g_get (C := RX7) (T := TX7) (N := 7) hx hb hts hown hK hP ((h_4a _ (fun h => by have h3 := h.1; have h4 := h.2; omega)).trans ((ha_2 _ (fun h => Or.elim h (fun h3 => by have h4 := h3.1; have h5 := h3.2; omega) (fun h3 => Or.elim h3 (fun h4 => by have h5 : b ≤ _ := h4.1; omega) (fun h4 => by have h5 : sz ≤ _ := h4; omega)))).trans ((ha_1 _ (fun h => by have h3 := h.1; have h4 := h.2; omega)).trans ho0))) nX7_read_X7 rfl 1 (by decide) (by decide +kernel) rfl (v := .ref t) rfl dX7_read_36 ?_
    refine lv_aload_n hx hb dX7_read_39 rfl (lv_at hl 1 rfl) ?_
    refine g_get (C := RX7) (T := TX7) (N := 7) hx hb hts hown hK hP ((h_4a _ (fun h => by have h3 := h.1; have h4 := h.2; omega)).trans ((ha_2 _ (fun h => Or.elim h (fun h3 => by have h4 := h3.1; have h5 := h3.2; omega) (fun h3 => Or.elim h3 (fun h4 => by have h5 : b ≤ _ := h4.1; omega) (fun h4 => by have h5 : sz ≤ _ := h4; omega)))).trans ((ha_1 _ (fun h => by have h3 := h.1; have h4 := h.2; omega)).trans ho0))) nX7_read_X7 rfl 0 (by decide) (by decide +kernel) rfl (v := .ref x) rfl dX7_read_40 ?_
    refine g_runV (As := [.ref x]) (rest := []) (own := RX7) (C := RX3) (T := TX3) (N := 6) 1 hx hb hml hown hts hK hz hP hL hS hlo hl.1 (c_X3_writeTo l t x tf tn a_1 so_1 ld_1 ti_1 (clearS S) τ_3 z_2 hTx hSt (by omega) (by omega) (clearS_B _) (ff_ok c9 (by omega))) gX7_read_X3_writeTo rfl rfl rfl (by decide +kernel) ⟨Nat.le_of_ble_eq_true rfl, Nat.le_of_ble_eq_true rfl⟩ hTx.c0 rfl rfl rfl (Nat.le_of_ble_eq_true rfl) dX7_read_43 ⟨Nat.le_of_ble_eq_true rfl, Nat.le_of_ble_eq_true rfl⟩ (g_kxv0 (fun τ_5 H locs z1 hz hp hP hL hS => ?_))
    obtain ⟨hz1, hs_5, ⟨a_5, so_5, ld_5, ti_5, ht_5⟩, ha_5⟩ := hp
    have hz := hz.trans hz1
    have hPa := hPa.fr (τ := τ_5) (fun q h1 h2 => ha_5 q (fun h => Or.elim h (fun h3 => by have h4 := h3.1; have h5 := h3.2; omega) (fun h3 => by have h4 := h3.1; have h5 := h3.2; omega)))
    have hVo := hVo.fr (τ := τ_5) (fun q h1 h2 => ha_5 q (fun h => Or.elim h (fun h3 => by have h4 := h3.1; have h5 := h3.2; omega) (fun h3 => by have h4 := h3.1; have h5 := h3.2; omega)))
    have hCh := hCh.fr (τ := τ_5) (fun q h1 h2 => ha_5 q (fun h => Or.elim h (fun h3 => by have h4 := h3.1; have h5 := h3.2; omega) (fun h3 => by have h4 := h3.1; have h5 := h3.2; omega)))
    have hTu := hTu.fr (τ := τ_5) (fun q h1 h2 => ha_5 q (fun h => Or.elim h (fun h3 => by have h4 := h3.1; have h5 := h3.2; omega) (fun h3 => by have h4 := h3.1; have h5 := h3.2; omega)))
    have hPl := hPl.fr (τ := τ_5) (fun q h1 h2 => ha_5 q (fun h => Or.elim h (fun h3 => by have h4 := h3.1; have h5 := h3.2; omega) (fun h3 => by have h4 := h3.1; have h5 := h3.2; omega)))
    have hSt := hs_5
    have hTx := ht_5
    have hag := hag.tr ha_5 (fun q h => Or.elim h (fun h3 => .inl ⟨by have h4 := h3.1; omega, by have h4 := h3.2; omega⟩) (fun h3 => .inl ⟨by have h4 := h3.1; omega, by have h4 := h3.2; omega⟩))
    refine lv_aload_n hx hb dX7_read_46 rfl (lv_at hl 1 rfl) ?_
    refine g_get (C := RX7) (T := TX7) (N := 7) hx hb hts hown hK hP ((ha_5 _ (fun h => Or.elim h (fun h3 => by have h4 := h3.1; have h5 := h3.2; omega) (fun h3 => by have h4 := h3.1; have h5 := h3.2; omega))).trans ((h_4a _ (fun h => by have h3 := h.1; have h4 := h.2; omega)).trans ((ha_2 _ (fun h => Or.elim h (fun h3 => by have h4 := h3.1; have h5 := h3.2; omega) (fun h3 => Or.elim h3 (fun h4 => by have h5 : b ≤ _ := h4.1; omega) (fun h4 => by have h5 : sz ≤ _ := h4; omega)))).trans ((ha_1 _ (fun h => by have h3 := h.1; have h4 := h.2; omega)).trans ho0)))) nX7_read_X7 rfl 0 (by decide) (by decide +kernel) rfl (v := .ref x) rfl dX7_read_47 ?_
    refine g_get (C := RX4) (T := TX4) (N := 13) hx hb hts hown hK hP hSt.c0 nX7_read_X4 rfl 0 (by decide) (by decide +kernel) rfl (v := .int (nI (sB (wrF tf tn 60 0 (clearS S))))) rfl dX7_read_50 ?_
    refine W.widen (k := 17) (n := 789) (Nat.le_of_ble_eq_true rfl) (Nat.le_of_ble_eq_true rfl) ?_
    exact g_iret (z := z_2) hx hb hr hlk hz hP hL hS dX7_read_53 (gxi_i ⟨rfl, ⟨x, t, pa, sn, v, ch, tu, _, _, ⟨hx0, ht0, hpa0, hsn0, hv0, hch0, htu0, hob⟩, ((ha_5 _ (fun h => Or.elim h (fun h3 => by have h4 := h3.1; have h5 := h3.2; omega) (fun h3 => by have h4 := h3.1; have h5 := h3.2; omega))).trans ((h_4a _ (fun h => by have h3 := h.1; have h4 := h.2; omega)).trans ((ha_2 _ (fun h => Or.elim h (fun h3 => by have h4 := h3.1; have h5 := h3.2; omega) (fun h3 => Or.elim h3 (fun h4 => by have h5 : b ≤ _ := h4.1; omega) (fun h4 => by have h5 : sz ≤ _ := h4; omega)))).trans ((ha_1 _ (fun h => by have h3 := h.1; have h4 := h.2; omega)).trans ho0)))), hSt, ⟨_, _, _, _, hTx⟩, hPa, ((ha_5 _ (fun h => Or.elim h (fun h3 => by have h4 := h3.1; have h5 := h3.2; omega) (fun h3 => by have h4 := h3.1; have h5 := h3.2; omega))).trans ((h_4a _ (fun h => by have h3 := h.1; have h4 := h.2; omega)).trans ((ha_2 _ (fun h => Or.elim h (fun h3 => by have h4 := h3.1; have h5 := h3.2; omega) (fun h3 => Or.elim h3 (fun h4 => by have h5 : b ≤ _ := h4.1; omega) (fun h4 => by have h5 : sz ≤ _ := h4; omega)))).trans ((ha_1 _ (fun h => by have h3 := h.1; have h4 := h.2; omega)).trans hsn)))), ⟨_, _, _, _, hVo⟩, ⟨_, _, _, hCh⟩, ⟨_, hTu⟩, hPl, hg_2, hkp, htn, recP_le _⟩, hzl, hzu, hag⟩)
  · exact absurd hff c9
