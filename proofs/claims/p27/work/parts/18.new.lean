/-! a new object -/
theorem Wo.fr {σ τ : gS} {o b : Nat} {S : sS} {tf : Nat → Int32} {tn P : Nat} {C : Nat → sS} {kp : Nat → Bool} {z : Nat} (h : Wo σ o b S tf tn P C kp z) (hq : ∀ q : Nat, Zc o b q → q < z → τ q = σ q) : Wo τ o b S tf tn P C kp z := by
  obtain ⟨x, t, pa, sn, v, ch, tu, g, sg, ⟨hx0, ht0, hpa0, hsn0, hv0, hch0, htu0, hob⟩, ho0, hSt, ⟨ta, tso, tld, tti, hTx⟩, hPa, hsn, ⟨vd, vf, vb, vw, hVo⟩, ⟨ca, cb, cd, hCh⟩, ⟨lf, hTu⟩, hPl, hg, hkp, htn, hP5⟩ := h
  have hbz := hPl.1
  have hi : ∀ q : Nat, o ≤ q → q < o + 39 → τ q = σ q := fun q h1 h2 => hq q (.inl ⟨h1, h2⟩) (by omega)
  exact ⟨x, t, pa, sn, v, ch, tu, g, sg, ⟨hx0, ht0, hpa0, hsn0, hv0, hch0, htu0, hob⟩, (hi o (by omega) (by omega)).trans ho0, hSt.fr (fun q h1 h2 => hi q (by omega) (by omega)), ⟨ta, tso, tld, tti, hTx.fr (fun q h1 h2 => hi q (by omega) (by omega))⟩, hPa.fr (fun q h1 h2 => hi q (by omega) (by omega)), (hi sn (by omega) (by omega)).trans hsn, ⟨vd, vf, vb, vw, hVo.fr (fun q h1 h2 => hi q (by omega) (by omega))⟩, ⟨ca, cb, cd, hCh.fr (fun q h1 h2 => hi q (by omega) (by omega))⟩, ⟨lf, hTu.fr (fun q h1 h2 => hi q (by omega) (by omega))⟩, hPl.fr (fun q h1 h2 => hq q (.inr h1) h2), hg, hkp, htn, hP5⟩
theorem nX7_init_X0 : ∀ w ∈ wsX00, w ∈ wsX7_init := by decide +kernel
theorem nX7_init_X1 : ∀ w ∈ wsX10, w ∈ wsX7_init := by decide +kernel
theorem nX7_init_X3 : ∀ w ∈ wsX30, w ∈ wsX7_init := by decide +kernel
theorem nX7_init_X4 : ∀ w ∈ wsX40, w ∈ wsX7_init := by decide +kernel
theorem nX7_init_X5 : ∀ w ∈ wsX50, w ∈ wsX7_init := by decide +kernel
theorem nX7_init_X6 : ∀ w ∈ wsX60, w ∈ wsX7_init := by decide +kernel
theorem nX7_init_X7 : ∀ w ∈ wsX70, w ∈ wsX7_init := by decide +kernel
set_option maxHeartbeats 4000000 in
set_option maxRecDepth 100000 in
theorem c_X7_init (l : Launch) (o : Nat) (σ : gS) (h0 : σ o = gO 7 [.null, .null, .null, .null, .null, .null, .null]) : gM l yX7_init wsX7_init ({ frames := 3, cells := 38, slots := 1491, locals := 55 } : Room) 38 1491 [.ref o] σ (o + 1) (gxv (fun τ n => n = o + 39 ∧ (∀ b z : Nat, o + 39 ≤ b → b ≤ z → Wo τ o b s0S (fun _ => 0) 0 0 (fun _ => s0S) (fun _ => false) z) ∧ gAs (gZo o 39) σ τ)) := by
  refine gM_of (cc := cX7_init) (maxL := 1) (ret := none) (by decide) rfl (Nat.le_of_ble_eq_true rfl) ?_
  intro D ka lo hL hlo p e s m below meth c hx hb hr hts hown hml hlk hnm hK H locs ls hz hP hS hl
  have hl : lv_has ls 1 [(0, .ref o)] := hl
  have hown : s.vm.findClass RX7 = some m.cls := hown
  have hag : gAs (gZo o 39) σ σ := gAs.rf
  refine lv_aload_n hx hb dX7_init_0 rfl (lv_at hl 0 rfl) ?_
  refine W.objInit hx hb hown (hts (.methodLink RX7 1 objectInit) (by decide +kernel)) (hts (.instanceMethod objectInit) (by decide +kernel)) (hts (.code objectInit ⟨#[0xb1]⟩ 1 none) (by decide +kernel)) rfl (by rw [hml]; exact hl.1) rfl dX7_init_1 (Nat.le_of_ble_eq_true rfl) (Nat.le_of_ble_eq_true rfl) ?_
  refine W.eq (g2 := F0 m 4 ls []) rfl ?_
  refine lv_aload_n hx hb dX7_init_4 rfl (lv_at hl 0 rfl) ?_
  obtain ⟨x, hx0⟩ : ∃ x : Nat, x = o + 1 := ⟨_, rfl⟩
  have hz : H.size = x := by omega
  have hlo : lo ≤ x := by omega
  refine g_new (C := RX4) (T := TX4) (N := 13) (ci := 4) (fs := [.int (0), .int (0), .int (0), .int (0), .int (0), .null, .null, .null, .null, .null, .null, .null, .null]) hx hb hts hown hK hz hP hL hS hlo nX7_init_X4 tyX4 tyX4_ok rfl (by decide +kernel) (by decide +kernel) (by decide +kernel) rfl (Nat.le_of_ble_eq_true rfl) (Nat.le_of_ble_eq_true rfl) dX7_init_5 (fun H hz hP hL hS => ?_)
  have hlo : lo ≤ x + 1 := Nat.le_succ_of_le hlo
  obtain ⟨σ1, e1⟩ : ∃ υ0 : gS, υ0 = gup σ x (gO 4 [.int (0), .int (0), .int (0), .int (0), .int (0), .null, .null, .null, .null, .null, .null, .null, .null]) := ⟨_, rfl⟩
  have hP : gH D ka σ1 H := by rw [e1]; exact hP
  have hL : gL lo σ1 := by rw [e1]; exact hL
  have hag := hag.upe e1 (⟨by omega, by omega⟩)
  refine lv_dup hx hb dX7_init_8 rfl ?_
  refine g_runI (b := x) (As := []) (rest := [.ref x, .ref o]) (own := RX7) 0 hx hb hml hown hts hK hz hP hL hS hlo hl.1 (c_X4_init l x σ1 (gup_here e1)) gX7_init_X4_init rfl rfl rfl (by decide +kernel) (by decide +kernel) (by decide +kernel) rfl (by decide +kernel) ⟨Nat.le_of_ble_eq_true rfl, Nat.le_of_ble_eq_true rfl⟩ rfl rfl (Nat.le_of_ble_eq_true rfl) dX7_init_9 ⟨Nat.le_of_ble_eq_true rfl, Nat.le_of_ble_eq_true rfl⟩ (g_kxv (fun τ_2 H locs z1 hz hp hP hL hS => ?_))
  obtain ⟨hz1, h_3n, h_3a⟩ := hp
  have hz := hz.trans hz1
  have hStx := h_3n
  have hag := hag.tr h_3a (fun q h => ⟨by have h3 := h.1; omega, by have h3 := h.2; omega⟩)
  have hlo : lo ≤ (x + 17) := by omega
  refine g_putF (C := RX7) (T := TX7) (N := 7) hx hb hts hown hK hP hL hS ((h_3a _ (fun h => by have h3 := h.1; have h4 := h.2; omega)).trans (gup_off e1 (by omega) h0)) nX7_init_X7 tyX7 tyX7_ok nmX7 rfl 0 (by decide) (by decide +kernel) rfl rfl hnm rfl (v := .ref x) rfl rfl (Nat.le_of_ble_eq_true rfl) dX7_init_12 (fun H locs hq hP hL hS => ?_)
  have hz := hq.trans hz
  obtain ⟨σ4, e4⟩ : ∃ υ0 : gS, υ0 = gup τ_2 o (gO 7 [.ref x, .null, .null, .null, .null, .null, .null]) := ⟨_, rfl⟩
  have hP : gH D ka σ4 H := by rw [e4]; exact hP
  have hL : gL lo σ4 := by rw [e4]; exact hL
  have hStx := hStx.fr (τ := σ4) (fun q h1 h2 => gup_eq e4 (by omega))
  have hag := hag.upe e4 (⟨by omega, by omega⟩)
  refine lv_aload_n hx hb dX7_init_15 rfl (lv_at hl 0 rfl) ?_
  obtain ⟨t, ht0⟩ : ∃ t : Nat, t = o + 18 := ⟨_, rfl⟩
  have hz : H.size = t := by omega
  have hlo : lo ≤ t := by omega
  refine g_new (C := RX3) (T := TX3) (N := 6) (ci := 3) (fs := [.null, .int (0), .int (0), .int (0), .int (0), .int (0)]) hx hb hts hown hK hz hP hL hS hlo nX7_init_X3 tyX3 tyX3_ok rfl (by decide +kernel) (by decide +kernel) (by decide +kernel) rfl (Nat.le_of_ble_eq_true rfl) (Nat.le_of_ble_eq_true rfl) dX7_init_16 (fun H hz hP hL hS => ?_)
  have hlo : lo ≤ t + 1 := Nat.le_succ_of_le hlo
  obtain ⟨σ5, e5⟩ : ∃ υ0 : gS, υ0 = gup σ4 t (gO 3 [.null, .int (0), .int (0), .int (0), .int (0), .int (0)]) := ⟨_, rfl⟩
  have hP : gH D ka σ5 H := by rw [e5]; exact hP
  have hL : gL lo σ5 := by rw [e5]; exact hL
  have hStx := hStx.fr (τ := σ5) (fun q h1 h2 => gup_eq e5 (by omega))
  have hag := hag.upe e5 (⟨by omega, by omega⟩)
  refine lv_dup hx hb dX7_init_19 rfl ?_
  refine g_runIN (b := t) (As := []) (rest := [.ref t, .ref o]) (own := RX7) 0 hx hb hml hown hts hK hz hP hL hS hlo hl.1 (c_X3_init l t σ5 (gup_here e5)) gX7_init_X3_init_n18 rfl rfl rfl (by decide +kernel) (by decide +kernel) (by decide +kernel) rfl (by decide +kernel) ⟨Nat.le_of_ble_eq_true rfl, Nat.le_of_ble_eq_true rfl⟩ rfl rfl (Nat.le_of_ble_eq_true rfl) dX7_init_20 ⟨Nat.le_of_ble_eq_true rfl, Nat.le_of_ble_eq_true rfl⟩ (g_kxv (fun τ_6 H locs z1 hz hp hP hL hS => ?_))
  obtain ⟨hz1, h_7n, h_7a⟩ := hp
  have hz := hz.trans hz1
  have hStx := hStx.fr (τ := τ_6) (fun q h1 h2 => h_7a q (fun h => by have h3 := h.1; have h4 := h.2; omega))
  have hTxt := h_7n
  have hag := hag.tr h_7a (fun q h => ⟨by have h3 := h.1; omega, by have h3 := h.2; omega⟩)
  have hlo : lo ≤ (t + 3) := by omega
  refine g_putF (C := RX7) (T := TX7) (N := 7) hx hb hts hown hK hP hL hS ((h_7a _ (fun h => by have h3 := h.1; have h4 := h.2; omega)).trans (gup_off e5 (by omega) (gup_here e4))) nX7_init_X7 tyX7 tyX7_ok nmX7 rfl 1 (by decide) (by decide +kernel) rfl rfl hnm rfl (v := .ref t) rfl rfl (Nat.le_of_ble_eq_true rfl) dX7_init_23 (fun H locs hq hP hL hS => ?_)
  have hz := hq.trans hz
  obtain ⟨σ8, e8⟩ : ∃ υ0 : gS, υ0 = gup τ_6 o (gO 7 [.ref x, .ref t, .null, .null, .null, .null, .null]) := ⟨_, rfl⟩
  have hP : gH D ka σ8 H := by rw [e8]; exact hP
  have hL : gL lo σ8 := by rw [e8]; exact hL
  have hStx := hStx.fr (τ := σ8) (fun q h1 h2 => gup_eq e8 (by omega))
  have hTxt := hTxt.fr (τ := σ8) (fun q h1 h2 => gup_eq e8 (by omega))
  have hag := hag.upe e8 (⟨by omega, by omega⟩)
  refine lv_aload_n hx hb dX7_init_26 rfl (lv_at hl 0 rfl) ?_
  obtain ⟨pa, hpa0⟩ : ∃ pa : Nat, pa = o + 21 := ⟨_, rfl⟩
  have hz : H.size = pa := by omega
  have hlo : lo ≤ pa := by omega
  refine g_new (C := RX1) (T := TX1) (N := 2) (ci := 1) (fs := [.null, .int (0)]) hx hb hts hown hK hz hP hL hS hlo nX7_init_X1 tyX1 tyX1_ok rfl (by decide +kernel) (by decide +kernel) (by decide +kernel) rfl (Nat.le_of_ble_eq_true rfl) (Nat.le_of_ble_eq_true rfl) dX7_init_27 (fun H hz hP hL hS => ?_)
  have hlo : lo ≤ pa + 1 := Nat.le_succ_of_le hlo
  obtain ⟨σ9, e9⟩ : ∃ υ0 : gS, υ0 = gup σ8 pa (gO 1 [.null, .int (0)]) := ⟨_, rfl⟩
  have hP : gH D ka σ9 H := by rw [e9]; exact hP
  have hL : gL lo σ9 := by rw [e9]; exact hL
  have hStx := hStx.fr (τ := σ9) (fun q h1 h2 => gup_eq e9 (by omega))
  have hTxt := hTxt.fr (τ := σ9) (fun q h1 h2 => gup_eq e9 (by omega))
  have hag := hag.upe e9 (⟨by omega, by omega⟩)
  refine lv_dup hx hb dX7_init_30 rfl ?_
  refine g_runIN (b := pa) (As := []) (rest := [.ref pa, .ref o]) (own := RX7) 0 hx hb hml hown hts hK hz hP hL hS hlo hl.1 (c_X1_init l pa σ9 (gup_here e9)) gX7_init_X1_init_n25 rfl rfl rfl (by decide +kernel) (by decide +kernel) (by decide +kernel) rfl (by decide +kernel) ⟨Nat.le_of_ble_eq_true rfl, Nat.le_of_ble_eq_true rfl⟩ rfl rfl (Nat.le_of_ble_eq_true rfl) dX7_init_31 ⟨Nat.le_of_ble_eq_true rfl, Nat.le_of_ble_eq_true rfl⟩ (g_kxv (fun τ_10 H locs z1 hz hp hP hL hS => ?_))
  obtain ⟨hz1, h_11n, h_11a⟩ := hp
  have hz := hz.trans hz1
  have hStx := hStx.fr (τ := τ_10) (fun q h1 h2 => h_11a q (fun h => by have h3 := h.1; have h4 := h.2; omega))
  have hTxt := hTxt.fr (τ := τ_10) (fun q h1 h2 => h_11a q (fun h => by have h3 := h.1; have h4 := h.2; omega))
  have hPapa := h_11n
  have hag := hag.tr h_11a (fun q h => ⟨by have h3 := h.1; omega, by have h3 := h.2; omega⟩)
  have hlo : lo ≤ (pa + 2) := by omega
  refine g_putF (C := RX7) (T := TX7) (N := 7) hx hb hts hown hK hP hL hS ((h_11a _ (fun h => by have h3 := h.1; have h4 := h.2; omega)).trans (gup_off e9 (by omega) (gup_here e8))) nX7_init_X7 tyX7 tyX7_ok nmX7 rfl 2 (by decide) (by decide +kernel) rfl rfl hnm rfl (v := .ref pa) rfl rfl (Nat.le_of_ble_eq_true rfl) dX7_init_34 (fun H locs hq hP hL hS => ?_)
  have hz := hq.trans hz
  obtain ⟨σ12, e12⟩ : ∃ υ0 : gS, υ0 = gup τ_10 o (gO 7 [.ref x, .ref t, .ref pa, .null, .null, .null, .null]) := ⟨_, rfl⟩
  have hP : gH D ka σ12 H := by rw [e12]; exact hP
  have hL : gL lo σ12 := by rw [e12]; exact hL
  have hStx := hStx.fr (τ := σ12) (fun q h1 h2 => gup_eq e12 (by omega))
  have hTxt := hTxt.fr (τ := σ12) (fun q h1 h2 => gup_eq e12 (by omega))
  have hPapa := hPapa.fr (τ := σ12) (fun q h1 h2 => gup_eq e12 (by omega))
  have hag := hag.upe e12 (⟨by omega, by omega⟩)
  refine lv_aload_n hx hb dX7_init_37 rfl (lv_at hl 0 rfl) ?_
  refine lv_iconst (v := (nI 2)) hx hb dX7_init_38 (by decide) ?_
  obtain ⟨sn, hsn0⟩ : ∃ sn : Nat, sn = o + 23 := ⟨_, rfl⟩
  have hz : H.size = sn := by omega
  have hlo : lo ≤ sn := by omega
  refine g_anew hx hb hts hown hK hz hP hL hS hlo (by decide +kernel) (n := nI 2) (N := 2) rfl (by omega) (Nat.le_of_ble_eq_true rfl) (Nat.le_of_ble_eq_true rfl) dX7_init_39 (fun H hz hP hL hS => ?_)
  have hlo : lo ≤ sn + 1 := Nat.le_succ_of_le hlo
  obtain ⟨σ13, e13⟩ : ∃ υ0 : gS, υ0 = gup σ12 sn (gR 2 (fun _ => none)) := ⟨_, rfl⟩
  have hP : gH D ka σ13 H := by rw [e13]; exact hP
  have hL : gL lo σ13 := by rw [e13]; exact hL
  have hStx := hStx.fr (τ := σ13) (fun q h1 h2 => gup_eq e13 (by omega))
  have hTxt := hTxt.fr (τ := σ13) (fun q h1 h2 => gup_eq e13 (by omega))
  have hPapa := hPapa.fr (τ := σ13) (fun q h1 h2 => gup_eq e13 (by omega))
  have hag := hag.upe e13 (⟨by omega, by omega⟩)
  refine g_putF (C := RX7) (T := TX7) (N := 7) hx hb hts hown hK hP hL hS (gup_off e13 (by omega) (gup_here e12)) nX7_init_X7 tyX7 tyX7_ok nmX7 rfl 3 (by decide) (by decide +kernel) rfl rfl hnm rfl (v := .ref sn) rfl rfl (Nat.le_of_ble_eq_true rfl) dX7_init_42 (fun H locs hq hP hL hS => ?_)
  have hz := hq.trans hz
  obtain ⟨σ14, e14⟩ : ∃ υ0 : gS, υ0 = gup σ13 o (gO 7 [.ref x, .ref t, .ref pa, .ref sn, .null, .null, .null]) := ⟨_, rfl⟩
  have hP : gH D ka σ14 H := by rw [e14]; exact hP
  have hL : gL lo σ14 := by rw [e14]; exact hL
  have hStx := hStx.fr (τ := σ14) (fun q h1 h2 => gup_eq e14 (by omega))
  have hTxt := hTxt.fr (τ := σ14) (fun q h1 h2 => gup_eq e14 (by omega))
  have hPapa := hPapa.fr (τ := σ14) (fun q h1 h2 => gup_eq e14 (by omega))
  have hag := hag.upe e14 (⟨by omega, by omega⟩)
  refine lv_aload_n hx hb dX7_init_45 rfl (lv_at hl 0 rfl) ?_
  obtain ⟨v, hv0⟩ : ∃ v : Nat, v = o + 24 := ⟨_, rfl⟩
  have hz : H.size = v := by omega
  have hlo : lo ≤ v := by omega
  refine g_new (C := RX6) (T := TX6) (N := 4) (ci := 6) (fs := [.null, .null, .int (0), .int (0)]) hx hb hts hown hK hz hP hL hS hlo nX7_init_X6 tyX6 tyX6_ok rfl (by decide +kernel) (by decide +kernel) (by decide +kernel) rfl (Nat.le_of_ble_eq_true rfl) (Nat.le_of_ble_eq_true rfl) dX7_init_46 (fun H hz hP hL hS => ?_)
  have hlo : lo ≤ v + 1 := Nat.le_succ_of_le hlo
  obtain ⟨σ15, e15⟩ : ∃ υ0 : gS, υ0 = gup σ14 v (gO 6 [.null, .null, .int (0), .int (0)]) := ⟨_, rfl⟩
  have hP : gH D ka σ15 H := by rw [e15]; exact hP
  have hL : gL lo σ15 := by rw [e15]; exact hL
  have hStx := hStx.fr (τ := σ15) (fun q h1 h2 => gup_eq e15 (by omega))
  have hTxt := hTxt.fr (τ := σ15) (fun q h1 h2 => gup_eq e15 (by omega))
  have hPapa := hPapa.fr (τ := σ15) (fun q h1 h2 => gup_eq e15 (by omega))
  have hag := hag.upe e15 (⟨by omega, by omega⟩)
  refine lv_dup hx hb dX7_init_49 rfl ?_
  refine g_runIN (b := v) (As := []) (rest := [.ref v, .ref o]) (own := RX7) 0 hx hb hml hown hts hK hz hP hL hS hlo hl.1 (c_X6_init l v σ15 (gup_here e15)) gX7_init_X6_init_n36 rfl rfl rfl (by decide +kernel) (by decide +kernel) (by decide +kernel) rfl (by decide +kernel) ⟨Nat.le_of_ble_eq_true rfl, Nat.le_of_ble_eq_true rfl⟩ rfl rfl (Nat.le_of_ble_eq_true rfl) dX7_init_50 ⟨Nat.le_of_ble_eq_true rfl, Nat.le_of_ble_eq_true rfl⟩ (g_kxv (fun τ_16 H locs z1 hz hp hP hL hS => ?_))
  obtain ⟨hz1, h_17n, h_17a⟩ := hp
  have hz := hz.trans hz1
  have hStx := hStx.fr (τ := τ_16) (fun q h1 h2 => h_17a q (fun h => by have h3 := h.1; have h4 := h.2; omega))
  have hTxt := hTxt.fr (τ := τ_16) (fun q h1 h2 => h_17a q (fun h => by have h3 := h.1; have h4 := h.2; omega))
  have hPapa := hPapa.fr (τ := τ_16) (fun q h1 h2 => h_17a q (fun h => by have h3 := h.1; have h4 := h.2; omega))
  have hVov := h_17n
  have hag := hag.tr h_17a (fun q h => ⟨by have h3 := h.1; omega, by have h3 := h.2; omega⟩)
  have hlo : lo ≤ (v + 5) := by omega
  refine g_putF (C := RX7) (T := TX7) (N := 7) hx hb hts hown hK hP hL hS ((h_17a _ (fun h => by have h3 := h.1; have h4 := h.2; omega)).trans (gup_off e15 (by omega) (gup_here e14))) nX7_init_X7 tyX7 tyX7_ok nmX7 rfl 4 (by decide) (by decide +kernel) rfl rfl hnm rfl (v := .ref v) rfl rfl (Nat.le_of_ble_eq_true rfl) dX7_init_53 (fun H locs hq hP hL hS => ?_)
  have hz := hq.trans hz
  obtain ⟨σ18, e18⟩ : ∃ υ0 : gS, υ0 = gup τ_16 o (gO 7 [.ref x, .ref t, .ref pa, .ref sn, .ref v, .null, .null]) := ⟨_, rfl⟩
  have hP : gH D ka σ18 H := by rw [e18]; exact hP
  have hL : gL lo σ18 := by rw [e18]; exact hL
  have hStx := hStx.fr (τ := σ18) (fun q h1 h2 => gup_eq e18 (by omega))
  have hTxt := hTxt.fr (τ := σ18) (fun q h1 h2 => gup_eq e18 (by omega))
  have hPapa := hPapa.fr (τ := σ18) (fun q h1 h2 => gup_eq e18 (by omega))
  have hVov := hVov.fr (τ := σ18) (fun q h1 h2 => gup_eq e18 (by omega))
  have hag := hag.upe e18 (⟨by omega, by omega⟩)
  refine lv_aload_n hx hb dX7_init_56 rfl (lv_at hl 0 rfl) ?_
  obtain ⟨ch, hch0⟩ : ∃ ch : Nat, ch = o + 29 := ⟨_, rfl⟩
  have hz : H.size = ch := by omega
  have hlo : lo ≤ ch := by omega
  refine g_new (C := RX0) (T := TX0) (N := 3) (ci := 0) (fs := [.null, .null, .null]) hx hb hts hown hK hz hP hL hS hlo nX7_init_X0 tyX0 tyX0_ok rfl (by decide +kernel) (by decide +kernel) (by decide +kernel) rfl (Nat.le_of_ble_eq_true rfl) (Nat.le_of_ble_eq_true rfl) dX7_init_57 (fun H hz hP hL hS => ?_)
  have hlo : lo ≤ ch + 1 := Nat.le_succ_of_le hlo
  obtain ⟨σ19, e19⟩ : ∃ υ0 : gS, υ0 = gup σ18 ch (gO 0 [.null, .null, .null]) := ⟨_, rfl⟩
  have hP : gH D ka σ19 H := by rw [e19]; exact hP
  have hL : gL lo σ19 := by rw [e19]; exact hL
  have hStx := hStx.fr (τ := σ19) (fun q h1 h2 => gup_eq e19 (by omega))
  have hTxt := hTxt.fr (τ := σ19) (fun q h1 h2 => gup_eq e19 (by omega))
  have hPapa := hPapa.fr (τ := σ19) (fun q h1 h2 => gup_eq e19 (by omega))
  have hVov := hVov.fr (τ := σ19) (fun q h1 h2 => gup_eq e19 (by omega))
  have hag := hag.upe e19 (⟨by omega, by omega⟩)
  refine lv_dup hx hb dX7_init_60 rfl ?_
  refine g_runIN (b := ch) (As := []) (rest := [.ref ch, .ref o]) (own := RX7) 0 hx hb hml hown hts hK hz hP hL hS hlo hl.1 (c_X0_init l ch σ19 (gup_here e19)) gX7_init_X0_init_n43 rfl rfl rfl (by decide +kernel) (by decide +kernel) (by decide +kernel) rfl (by decide +kernel) ⟨Nat.le_of_ble_eq_true rfl, Nat.le_of_ble_eq_true rfl⟩ rfl rfl (Nat.le_of_ble_eq_true rfl) dX7_init_61 ⟨Nat.le_of_ble_eq_true rfl, Nat.le_of_ble_eq_true rfl⟩ (g_kxv (fun τ_20 H locs z1 hz hp hP hL hS => ?_))
  obtain ⟨hz1, h_21n, h_21a⟩ := hp
  have hz := hz.trans hz1
  have hStx := hStx.fr (τ := τ_20) (fun q h1 h2 => h_21a q (fun h => by have h3 := h.1; have h4 := h.2; omega))
  have hTxt := hTxt.fr (τ := τ_20) (fun q h1 h2 => h_21a q (fun h => by have h3 := h.1; have h4 := h.2; omega))
  have hPapa := hPapa.fr (τ := τ_20) (fun q h1 h2 => h_21a q (fun h => by have h3 := h.1; have h4 := h.2; omega))
  have hVov := hVov.fr (τ := τ_20) (fun q h1 h2 => h_21a q (fun h => by have h3 := h.1; have h4 := h.2; omega))
  have hChch := h_21n
  have hag := hag.tr h_21a (fun q h => ⟨by have h3 := h.1; omega, by have h3 := h.2; omega⟩)
  have hlo : lo ≤ (ch + 7) := by omega
  refine g_putF (C := RX7) (T := TX7) (N := 7) hx hb hts hown hK hP hL hS ((h_21a _ (fun h => by have h3 := h.1; have h4 := h.2; omega)).trans (gup_off e19 (by omega) (gup_here e18))) nX7_init_X7 tyX7 tyX7_ok nmX7 rfl 5 (by decide) (by decide +kernel) rfl rfl hnm rfl (v := .ref ch) rfl rfl (Nat.le_of_ble_eq_true rfl) dX7_init_64 (fun H locs hq hP hL hS => ?_)
  have hz := hq.trans hz
  obtain ⟨σ22, e22⟩ : ∃ υ0 : gS, υ0 = gup τ_20 o (gO 7 [.ref x, .ref t, .ref pa, .ref sn, .ref v, .ref ch, .null]) := ⟨_, rfl⟩
  have hP : gH D ka σ22 H := by rw [e22]; exact hP
  have hL : gL lo σ22 := by rw [e22]; exact hL
  have hStx := hStx.fr (τ := σ22) (fun q h1 h2 => gup_eq e22 (by omega))
  have hTxt := hTxt.fr (τ := σ22) (fun q h1 h2 => gup_eq e22 (by omega))
  have hPapa := hPapa.fr (τ := σ22) (fun q h1 h2 => gup_eq e22 (by omega))
  have hVov := hVov.fr (τ := σ22) (fun q h1 h2 => gup_eq e22 (by omega))
  have hChch := hChch.fr (τ := σ22) (fun q h1 h2 => gup_eq e22 (by omega))
  have hag := hag.upe e22 (⟨by omega, by omega⟩)
  refine lv_aload_n hx hb dX7_init_67 rfl (lv_at hl 0 rfl) ?_
  obtain ⟨tu, htu0⟩ : ∃ tu : Nat, tu = o + 36 := ⟨_, rfl⟩
  have hz : H.size = tu := by omega
  have hlo : lo ≤ tu := by omega
  refine g_new (C := RX5) (T := TX5) (N := 1) (ci := 5) (fs := [.null]) hx hb hts hown hK hz hP hL hS hlo nX7_init_X5 tyX5 tyX5_ok rfl (by decide +kernel) (by decide +kernel) (by decide +kernel) rfl (Nat.le_of_ble_eq_true rfl) (Nat.le_of_ble_eq_true rfl) dX7_init_68 (fun H hz hP hL hS => ?_)
  have hlo : lo ≤ tu + 1 := Nat.le_succ_of_le hlo
  obtain ⟨σ23, e23⟩ : ∃ υ0 : gS, υ0 = gup σ22 tu (gO 5 [.null]) := ⟨_, rfl⟩
  have hP : gH D ka σ23 H := by rw [e23]; exact hP
  have hL : gL lo σ23 := by rw [e23]; exact hL
  have hStx := hStx.fr (τ := σ23) (fun q h1 h2 => gup_eq e23 (by omega))
  have hTxt := hTxt.fr (τ := σ23) (fun q h1 h2 => gup_eq e23 (by omega))
  have hPapa := hPapa.fr (τ := σ23) (fun q h1 h2 => gup_eq e23 (by omega))
  have hVov := hVov.fr (τ := σ23) (fun q h1 h2 => gup_eq e23 (by omega))
  have hChch := hChch.fr (τ := σ23) (fun q h1 h2 => gup_eq e23 (by omega))
  have hag := hag.upe e23 (⟨by omega, by omega⟩)
  refine lv_dup hx hb dX7_init_71 rfl ?_
  refine g_runIN (b := tu) (As := []) (rest := [.ref tu, .ref o]) (own := RX7) 0 hx hb hml hown hts hK hz hP hL hS hlo hl.1 (c_X5_init l tu σ23 (gup_here e23)) gX7_init_X5_init_n50 rfl rfl rfl (by decide +kernel) (by decide +kernel) (by decide +kernel) rfl (by decide +kernel) ⟨Nat.le_of_ble_eq_true rfl, Nat.le_of_ble_eq_true rfl⟩ rfl rfl (Nat.le_of_ble_eq_true rfl) dX7_init_72 ⟨Nat.le_of_ble_eq_true rfl, Nat.le_of_ble_eq_true rfl⟩ (g_kxv (fun τ_24 H locs z1 hz hp hP hL hS => ?_))
  obtain ⟨hz1, h_25n, h_25a⟩ := hp
  have hz := hz.trans hz1
  have hStx := hStx.fr (τ := τ_24) (fun q h1 h2 => h_25a q (fun h => by have h3 := h.1; have h4 := h.2; omega))
  have hTxt := hTxt.fr (τ := τ_24) (fun q h1 h2 => h_25a q (fun h => by have h3 := h.1; have h4 := h.2; omega))
  have hPapa := hPapa.fr (τ := τ_24) (fun q h1 h2 => h_25a q (fun h => by have h3 := h.1; have h4 := h.2; omega))
  have hVov := hVov.fr (τ := τ_24) (fun q h1 h2 => h_25a q (fun h => by have h3 := h.1; have h4 := h.2; omega))
  have hChch := hChch.fr (τ := τ_24) (fun q h1 h2 => h_25a q (fun h => by have h3 := h.1; have h4 := h.2; omega))
  have hTutu := h_25n
  have hag := hag.tr h_25a (fun q h => ⟨by have h3 := h.1; omega, by have h3 := h.2; omega⟩)
  have hlo : lo ≤ (tu + 3) := by omega
  refine g_putF (C := RX7) (T := TX7) (N := 7) hx hb hts hown hK hP hL hS ((h_25a _ (fun h => by have h3 := h.1; have h4 := h.2; omega)).trans (gup_off e23 (by omega) (gup_here e22))) nX7_init_X7 tyX7 tyX7_ok nmX7 rfl 6 (by decide) (by decide +kernel) rfl rfl hnm rfl (v := .ref tu) rfl rfl (Nat.le_of_ble_eq_true rfl) dX7_init_75 (fun H locs hq hP hL hS => ?_)
  have hz := hq.trans hz
  obtain ⟨σ26, e26⟩ : ∃ υ0 : gS, υ0 = gup τ_24 o (gO 7 [.ref x, .ref t, .ref pa, .ref sn, .ref v, .ref ch, .ref tu]) := ⟨_, rfl⟩
  have hP : gH D ka σ26 H := by rw [e26]; exact hP
  have hL : gL lo σ26 := by rw [e26]; exact hL
  have hStx := hStx.fr (τ := σ26) (fun q h1 h2 => gup_eq e26 (by omega))
  have hTxt := hTxt.fr (τ := σ26) (fun q h1 h2 => gup_eq e26 (by omega))
  have hPapa := hPapa.fr (τ := σ26) (fun q h1 h2 => gup_eq e26 (by omega))
  have hVov := hVov.fr (τ := σ26) (fun q h1 h2 => gup_eq e26 (by omega))
  have hChch := hChch.fr (τ := σ26) (fun q h1 h2 => gup_eq e26 (by omega))
  have hTutu := hTutu.fr (τ := σ26) (fun q h1 h2 => gup_eq e26 (by omega))
  have hag := hag.upe e26 (⟨by omega, by omega⟩)
  refine W.widen (k := 38) (n := 1491) (Nat.le_of_ble_eq_true rfl) (Nat.le_of_ble_eq_true rfl) ?_
  exact g_vret (z := (tu + 3)) hx hb hr hlk hz hP hL hS dX7_init_78 (gxv_i ⟨by omega, fun b z hb1 hb2 => ⟨x, t, pa, sn, v, ch, tu, fun _ => none, fun _ => none, ⟨by omega, by omega, by omega, by omega, by omega, by omega, by omega, by omega⟩, (gup_here e26), hStx, ⟨_, _, _, _, hTxt⟩, hPapa, (gup_off e26 (by omega) ((h_25a _ (fun h => by have h3 := h.1; have h4 := h.2; omega)).trans (gup_off e23 (by omega) (gup_off e22 (by omega) ((h_21a _ (fun h => by have h3 := h.1; have h4 := h.2; omega)).trans (gup_off e19 (by omega) (gup_off e18 (by omega) ((h_17a _ (fun h => by have h3 := h.1; have h4 := h.2; omega)).trans (gup_off e15 (by omega) (gup_off e14 (by omega) (gup_here e13))))))))))), ⟨_, _, _, _, hVov⟩, ⟨_, _, _, hChch⟩, ⟨_, hTutu⟩, ⟨hb2, fun k y hk e => by simp only [pk] at e; split at e <;> cases e⟩, fun k hk => absurd hk (Nat.not_lt_zero _), fun k hk => rfl, by omega, by omega⟩, hag⟩)
