/-! the program's object with all that belongs to it -/
def Zc (o b : Nat) : Nat → Prop := fun a => gZo o 39 a ∨ b ≤ a
def Wo (σ : gS) (o b : Nat) (S : sS) (tf : Nat → Int32) (tn P : Nat) (C : Nat → sS) (kp : Nat → Bool) (z : Nat) : Prop :=
  ∃ (x t pa sn v ch tu : Nat) (g sg : Nat → Option Nat), (x = o + 1 ∧ t = o + 18 ∧ pa = o + 21 ∧ sn = o + 23 ∧ v = o + 24 ∧ ch = o + 29 ∧ tu = o + 36 ∧ o + 39 ≤ b) ∧
  σ o = gO 7 [.ref x, .ref t, .ref pa, .ref sn, .ref v, .ref ch, .ref tu] ∧ StAt σ x S ∧ (∃ (a : Nat) (so ld ti : Int32), TxAt σ t tf tn a so ld ti) ∧ PaAt σ pa P g ∧ σ sn = gR 2 sg ∧
  (∃ (d f : Nat → Int32) (b0 : Nat) (w0 : Int32), VoAt σ v d f b0 w0) ∧ (∃ c1 c2 c3 : Nat → Int32, ChAt σ ch c1 c2 c3) ∧ (∃ lf : Nat → Int32, TuAt σ tu lf) ∧ PlAt σ b g sg C z ∧
  (∀ k : Nat, k < P → ∃ y, g k = some y) ∧ (∀ k : Nat, k < 2 → kp k = (sg k).isSome) ∧ tn ≤ 60 ∧ P ≤ 5
/-- an answer, and a new state if the act was done -/
def wP (o b : Nat) (σ : gS) (S : sS) (tf : Nat → Int32) (tn P : Nat) (C : Nat → sS) (kp : Nat → Bool) (sz : Nat) (res : Int32 × Option sS) (r : Int32) (τ : gS) (n : Nat) : Prop :=
  r = res.1 ∧ (match res.2 with
    | none => Wo τ o b S tf tn P C kp n
    | some S2 => Wo τ o b S2 tf tn (recP P) (recS C P S) kp n) ∧ sz ≤ n ∧ n ≤ sz + 17 ∧ gAs (Zc o b) σ τ
section WP
variable {o b : Nat} {σ : gS} {S S2 : sS} {tf : Nat → Int32} {tn P : Nat} {C : Nat → sS} {kp : Nat → Bool} {sz : Nat} {res : Int32 × Option sS} {r : Int32} {τ : gS} {n : Nat}
theorem wP_n (ho : res = (r, none)) (hW : Wo τ o b S tf tn P C kp n) (h1 : sz ≤ n) (h2 : n ≤ sz + 17) (ha : gAs (Zc o b) σ τ) : wP o b σ S tf tn P C kp sz res r τ n := by
  subst ho; exact ⟨rfl, hW, h1, h2, ha⟩
theorem wP_s (ho : res = (r, some S2)) (hW : Wo τ o b S2 tf tn (recP P) (recS C P S) kp n) (h1 : sz ≤ n) (h2 : n ≤ sz + 17) (ha : gAs (Zc o b) σ τ) : wP o b σ S tf tn P C kp sz res r τ n := by
  subst ho; exact ⟨rfl, hW, h1, h2, ha⟩
end WP
theorem nb {x : Bool} (h : x = false) : ¬ (x = true) := by rw [h]; decide
theorem recP_le (P : Nat) : recP P ≤ 5 := by
  by_cases h : P < 5
  · rw [recP_t h]; omega
  · rw [recP, if_neg h]; omega
/-! arguments by their numbers -/
abbrev tk (a : Int32) : Nat := a.toNatClampNeg
theorem tk_n {k : Nat} (h : k < 2147483648) : tk (nI k) = k := nI_clamp h
theorem tk_in {a : Int32} {n : Nat} (h : inN a n = true) (hn : n < 2147483648) : a = nI (tk a) ∧ tk a < n := by
  obtain ⟨k, hk, rfl⟩ := inN_of h hn
  rw [tk_n (by omega)]
  exact ⟨rfl, hk⟩
theorem tk_wi {a : Int32} {b d : Nat} (hb : b < 2147483648) (hd : d < 2147483648) (h : inB a (nI b) (nI d) = true) : a = nI (tk a) ∧ b ≤ tk a ∧ tk a ≤ d := by
  obtain ⟨k, h1, h2, rfl⟩ := inB_of hb hd h
  rw [tk_n (by omega)]
  exact ⟨rfl, h1, h2⟩
/-! the acts: answer, and the new state if there is one -/
def o_setSort (S : sS) (a1 a2 : Int32) : Int32 × Option sS := if inN a1 (sB S) = true then (if inB a2 (nI 0) (nI 2) = true then (S 0 (tk a1), some (sRow S 0 (upd (S 0) (tk a1) a2))) else (-2, none)) else (-1, none)
def o_addSinger (S : sS) (a1 a2 : Int32) : Int32 × Option sS := if inB a1 (nI 4) (nI 40) = true then (if inB a2 (nI 1) (nI 10) = true then (if sN S < 12 then (nI (sN S), some (addS S a1 a2)) else (-3, none)) else (-2, none)) else (-2, none)
abbrev prsS (S : sS) (i : Nat) : sS := sPut S 8 2 (S 8 2 ^^^ bitI i)
def o_setPresent (S : sS) (a1 : Int32) (a2 : Bool) : Int32 × Option sS := if inN a1 (sN S) = true then (if presB S (tk a1) ≠ a2 then (bcI (prsS S (tk a1) 8 2), some (prsS S (tk a1))) else (-5, none)) else (-1, none)
def o_addSolo (S : sS) (a1 a2 a3 : Int32) : Int32 × Option sS := if inN a1 (sN S) = true then (if inN a2 (sB S) = true then (if inN a3 (sB S) = true then (if tk a2 ≤ tk a3 then (if ovF S (tk a2) (tk a3) = true then (-4, none) else (if sK S < 8 then (nI (insP S (tk a2) (sK S)), some (insS S (tk a1) (tk a2) (tk a3))) else (-3, none))) else (-2, none)) else (-1, none)) else (-1, none)) else (-1, none)
def o_removeSolo (S : sS) (a1 : Int32) : Int32 × Option sS := if inN a1 (sK S) = true then (nI (sK (drpS S (tk a1))), some (drpS S (tk a1))) else (-1, none)
abbrev mrkS (S : sS) (i b : Nat) : sS := sRow S 2 (upd (S 2) b (S 2 b ^^^ bitI i))
def o_mark (S : sS) (a1 a2 : Int32) (a3 : Bool) : Int32 × Option sS := if inN a1 (sN S) = true then (if inN a2 (sB S) = true then (if markB S (tk a1) (tk a2) ≠ a3 then (nI (cntF (fun b => markB (mrkS S (tk a1) (tk a2)) (tk a1) b) (sB (mrkS S (tk a1) (tk a2)))), some (mrkS S (tk a1) (tk a2))) else (-5, none)) else (-1, none)) else (-1, none)
def o_setReserve (S : sS) (a1 : Int32) : Int32 × Option sS := if inB a1 (nI 1) (nI 8) = true then (nI (sR S), some (sPut S 8 4 (nI (tk a1)))) else (-2, none)
def o_make (S : sS) (np : Nat) : Int32 × Option sS := if S 8 2 = 0 then (-4, none) else (if sB S = 0 then (-4, none) else (smI (fun b => bcI (planS S np 2 b)) (sB (planS S np)), some (planS S np)))
theorem nX7_setSort_X4 : ∀ w ∈ wsX40, w ∈ wsX7_setSort := by decide +kernel
theorem nX7_setSort_X7 : ∀ w ∈ wsX70, w ∈ wsX7_setSort := by decide +kernel
set_option maxHeartbeats 4000000 in
set_option maxRecDepth 100000 in
theorem c_X7_setSort (l : Launch) (o b : Nat) (S : sS) (tf : Nat → Int32) (tn P : Nat) (C : Nat → sS) (kp : Nat → Bool) (a1 a2 : Int32) (σ : gS) (sz : Nat) (hW : Wo σ o b S tf tn P C kp sz) (hok : okS S) : gM l yX7_setSort wsX7_setSort ({ frames := 4, cells := 17, slots := 789, locals := 86 } : Room) 17 789 [.ref o, .int a1, .int a2] σ sz (gxi (fun r τ n => wP o b σ S tf tn P C kp sz (o_setSort S a1 a2) r τ n)) := by
  refine gM_of (cc := cX7_setSort) (maxL := 4) (ret := (some .int)) (by decide) rfl (Nat.le_of_ble_eq_true rfl) ?_
  intro D ka lo hL hlo p e s m below meth c hx hb hr hts hown hml hlk hnm hK H locs ls hz hP hS hl
  have hl : lv_has ls 4 [(0, .ref o), (1, .int a1), (2, .int a2)] := hl
  have hown : s.vm.findClass RX7 = some m.cls := hown
  obtain ⟨x, t, pa, sn, v, ch, tu, g, sg, ⟨hx0, ht0, hpa0, hsn0, hv0, hch0, htu0, hob⟩, ho0, hSt, ⟨ta, tso, tld, tti, hTx⟩, hPa, hsn, ⟨vd, vf, vb, vw, hVo⟩, ⟨ca, cb, cd, hCh⟩, ⟨lf, hTu⟩, hPl, hg, hkp, htn, hP5⟩ := hW
  obtain ⟨hB, hN, hKs, hRs⟩ := hok
  have hbz := hPl.1
  have hag : gAs (Zc o b) σ σ := gAs.rf
  refine lv_aload_n hx hb dX7_setSort_0 rfl (lv_at hl 0 rfl) ?_
  refine g_get (C := RX7) (T := TX7) (N := 7) hx hb hts hown hK hP ho0 nX7_setSort_X7 rfl 0 (by decide) (by decide +kernel) rfl (v := .ref x) rfl dX7_setSort_1 ?_
  refine lv_iload_n hx hb dX7_setSort_4 rfl (lv_at hl 1 rfl) ?_
  refine g_runV (As := [.int a1]) (rest := []) (own := RX7) (C := RX4) (T := TX4) (N := 13) 1 hx hb hml hown hts hK hz hP hL hS hlo hl.1 (c_X4_hasBeat l x S a1 σ sz hSt) gX7_setSort_X4_hasBeat rfl rfl rfl (by decide +kernel) ⟨Nat.le_of_ble_eq_true rfl, Nat.le_of_ble_eq_true rfl⟩ hSt.c0 rfl rfl rfl (Nat.le_of_ble_eq_true rfl) dX7_setSort_5 ⟨Nat.le_of_ble_eq_true rfl, Nat.le_of_ble_eq_true rfl⟩ (g_ki0 (fun H locs hz hP hL hS => ?_))
  refine g_ifb_ne (tgt := 13) hx hb dX7_setSort_8 (by decide) (fun c8 => ?_) (fun c8 => ?_)
  · obtain ⟨ha1e, ha1l⟩ := tk_in c8 (by omega)
    refine lv_iload_n hx hb dX7_setSort_13 rfl (lv_at hl 2 rfl) ?_
    refine lv_iconst (v := (nI 0)) hx hb dX7_setSort_14 (by decide) ?_
    refine lv_iconst (v := (nI 2)) hx hb dX7_setSort_15 (by decide) ?_
    refine g_runS (As := [.int a2, .int (nI 0), .int (nI 2)]) (rest := []) (own := RX7) 3 hx hb hml hown hts hK hz hP hL hS hlo hl.1 (c_X7_isWithin l a2 ((nI 0)) ((nI 2)) σ sz) gX7_setSort_X7_isWithin rfl rfl rfl (by decide +kernel) ⟨Nat.le_of_ble_eq_true rfl, Nat.le_of_ble_eq_true rfl⟩ rfl rfl (Nat.le_of_ble_eq_true rfl) dX7_setSort_16 ⟨Nat.le_of_ble_eq_true rfl, Nat.le_of_ble_eq_true rfl⟩ (g_ki0 (fun H locs hz hP hL hS => ?_))
    refine g_ifb_ne (tgt := 25) hx hb dX7_setSort_19 (by decide) (fun c19 => ?_) (fun c19 => ?_)
    · refine lv_aload_n hx hb dX7_setSort_25 rfl (lv_at hl 0 rfl) ?_
      refine g_get (C := RX7) (T := TX7) (N := 7) hx hb hts hown hK hP ho0 nX7_setSort_X7 rfl 2 (by decide) (by decide +kernel) rfl (v := .ref pa) rfl dX7_setSort_26 ?_
      refine lv_aload_n hx hb dX7_setSort_29 rfl (lv_at hl 0 rfl) ?_
      refine g_get (C := RX7) (T := TX7) (N := 7) hx hb hts hown hK hP ho0 nX7_setSort_X7 rfl 0 (by decide) (by decide +kernel) rfl (v := .ref x) rfl dX7_setSort_30 ?_
      refine g_runV (As := [.ref x]) (rest := []) (own := RX7) (C := RX1) (T := TX1) (N := 2) 1 hx hb hml hown hts hK hz hP hL hS hlo hl.1 (c_X1_record l pa b x P g sg C S σ sz hPa hPl (by omega) hSt (by omega) (by omega) hP5 hg ⟨by omega, by omega, by omega, by omega⟩) gX7_setSort_X1_record rfl rfl rfl (by decide +kernel) ⟨Nat.le_of_ble_eq_true rfl, Nat.le_of_ble_eq_true rfl⟩ hPa.c0 rfl rfl rfl (Nat.le_of_ble_eq_true rfl) dX7_setSort_33 ⟨Nat.le_of_ble_eq_true rfl, Nat.le_of_ble_eq_true rfl⟩ (g_kxv (fun τ_1 H locs z_1 hz hp hP hL hS => ?_))
      obtain ⟨g_1, hzl, hzu, hp_1, hl_1, hg_1, hs_1, ha_1⟩ := hp
      have hTx := hTx.fr (τ := τ_1) (fun q h1 h2 => ha_1 q (fun h => Or.elim h (fun h3 => by have h4 := h3.1; have h5 := h3.2; omega) (fun h3 => by have h4 : b ≤ _ := h3; omega)))
      have hVo := hVo.fr (τ := τ_1) (fun q h1 h2 => ha_1 q (fun h => Or.elim h (fun h3 => by have h4 := h3.1; have h5 := h3.2; omega) (fun h3 => by have h4 : b ≤ _ := h3; omega)))
      have hCh := hCh.fr (τ := τ_1) (fun q h1 h2 => ha_1 q (fun h => Or.elim h (fun h3 => by have h4 := h3.1; have h5 := h3.2; omega) (fun h3 => by have h4 : b ≤ _ := h3; omega)))
      have hTu := hTu.fr (τ := τ_1) (fun q h1 h2 => ha_1 q (fun h => Or.elim h (fun h3 => by have h4 := h3.1; have h5 := h3.2; omega) (fun h3 => by have h4 : b ≤ _ := h3; omega)))
      have hPa := hp_1
      have hSt := hs_1
      have hag := hag.tr ha_1 (fun q h => Or.elim h (fun h3 => .inl ⟨by have h4 := h3.1; omega, by have h4 := h3.2; omega⟩) (fun h3 => .inr h3))
      have hPl := hl_1
      have hbz := hPl.1
      have hlo : lo ≤ z_1 := Nat.le_trans hlo hzl
      refine lv_aload_n hx hb dX7_setSort_36 rfl (lv_at hl 0 rfl) ?_
      refine g_get (C := RX7) (T := TX7) (N := 7) hx hb hts hown hK hP ((ha_1 _ (fun h => Or.elim h (fun h3 => by have h4 := h3.1; have h5 := h3.2; omega) (fun h3 => by have h4 : b ≤ _ := h3; omega))).trans ho0) nX7_setSort_X7 rfl 0 (by decide) (by decide +kernel) rfl (v := .ref x) rfl dX7_setSort_37 ?_
      refine g_get (C := RX4) (T := TX4) (N := 13) hx hb hts hown hK hP hSt.c0 nX7_setSort_X4 rfl 5 (by decide) (by decide +kernel) rfl (v := .ref (x + 1)) rfl dX7_setSort_40 ?_
      refine lv_iload_n hx hb dX7_setSort_43 rfl (lv_at hl 1 rfl) ?_
      refine g_top (y := (nI (tk a1))) ha1e ?_
      refine g_runV (As := [.int (nI (tk a1))]) (rest := []) (own := RX7) (C := RX2) (T := TX2) (N := 1) 1 hx hb hml hown hts hK hz hP hL hS hlo hl.1 (c_X2_at l (x + 1) 96 (tk a1) (S 0) τ_1 z_1 ⟨hSt.c1, hSt.c2⟩ (by omega) (by omega)) gX7_setSort_X2_at rfl rfl rfl (by decide +kernel) ⟨Nat.le_of_ble_eq_true rfl, Nat.le_of_ble_eq_true rfl⟩ hSt.c1 rfl rfl rfl (Nat.le_of_ble_eq_true rfl) dX7_setSort_44 ⟨Nat.le_of_ble_eq_true rfl, Nat.le_of_ble_eq_true rfl⟩ (g_ki0 (fun H locs hz hP hL hS => ?_))
      refine lv_istore_n (lv' := [(3, .int ((S 0) (tk a1))), (0, .ref o), (1, .int a1), (2, .int a2)]) hx hb dX7_setSort_47 rfl hl (by decide) rfl (fun ls hl => ?_)
      refine lv_aload_n hx hb dX7_setSort_48 rfl (lv_at hl 1 rfl) ?_
      refine g_get (C := RX7) (T := TX7) (N := 7) hx hb hts hown hK hP ((ha_1 _ (fun h => Or.elim h (fun h3 => by have h4 := h3.1; have h5 := h3.2; omega) (fun h3 => by have h4 : b ≤ _ := h3; omega))).trans ho0) nX7_setSort_X7 rfl 0 (by decide) (by decide +kernel) rfl (v := .ref x) rfl dX7_setSort_49 ?_
      refine g_get (C := RX4) (T := TX4) (N := 13) hx hb hts hown hK hP hSt.c0 nX7_setSort_X4 rfl 5 (by decide) (by decide +kernel) rfl (v := .ref (x + 1)) rfl dX7_setSort_52 ?_
      refine lv_iload_n hx hb dX7_setSort_55 rfl (lv_at hl 2 rfl) ?_
      refine g_top (y := (nI (tk a1))) ha1e ?_
      refine lv_iload_n hx hb dX7_setSort_56 rfl (lv_at hl 3 rfl) ?_
      refine g_runV (As := [.int (nI (tk a1)), .int a2]) (rest := []) (own := RX7) (C := RX2) (T := TX2) (N := 1) 2 hx hb hml hown hts hK hz hP hL hS hlo hl.1 (c_X2_put l (x + 1) 96 (tk a1) (S 0) a2 τ_1 z_1 ⟨hSt.c1, hSt.c2⟩ (by omega) (by omega)) gX7_setSort_X2_put rfl rfl rfl (by decide +kernel) ⟨Nat.le_of_ble_eq_true rfl, Nat.le_of_ble_eq_true rfl⟩ hSt.c1 rfl rfl rfl (Nat.le_of_ble_eq_true rfl) dX7_setSort_57 ⟨Nat.le_of_ble_eq_true rfl, Nat.le_of_ble_eq_true rfl⟩ (g_kv0 (fun H locs hz hP hL hS => ?_))
      obtain ⟨σ2, e2⟩ : ∃ υ0 : gS, υ0 = gup τ_1 (x + 2) (gI 96 (upd (S 0) (tk a1) a2)) := ⟨_, rfl⟩
      have hP : gH D ka σ2 H := by rw [e2]; exact hP
      have hL : gL lo σ2 := by rw [e2]; exact hL
      have hTx := hTx.fr (τ := σ2) (fun q h1 h2 => gup_eq e2 (by omega))
      have hPa := hPa.fr (τ := σ2) (fun q h1 h2 => gup_eq e2 (by omega))
      have hVo := hVo.fr (τ := σ2) (fun q h1 h2 => gup_eq e2 (by omega))
      have hCh := hCh.fr (τ := σ2) (fun q h1 h2 => gup_eq e2 (by omega))
      have hTu := hTu.fr (τ := σ2) (fun q h1 h2 => gup_eq e2 (by omega))
      have hPl := hPl.fr (τ := σ2) (fun q h1 h2 => gup_eq e2 (by omega))
      have hSt : StAt σ2 x (sRow S 0 (upd (S 0) (tk a1) a2)) := by rw [e2]; exact hSt.w2 (upd (S 0) (tk a1) a2)
      have hag := hag.upe e2 (.inl ⟨by omega, by omega⟩)
      refine lv_iload_n hx hb dX7_setSort_60 rfl (lv_at hl 0 rfl) ?_
      refine W.widen (k := 17) (n := 789) (Nat.le_of_ble_eq_true rfl) (Nat.le_of_ble_eq_true rfl) ?_
      exact g_iret (z := z_1) hx hb hr hlk hz hP hL hS dX7_setSort_61 (gxi_i (wP_s (by unfold o_setSort; rw [if_pos (by first | exact c8 | exact nb c8 | exact Ne.symm c8 | exact fun q => q c8 | exact fun q => q c8.symm | omega), if_pos (by first | exact c19 | exact nb c19 | exact Ne.symm c19 | exact fun q => q c19 | exact fun q => q c19.symm | omega)]) ⟨x, t, pa, sn, v, ch, tu, _, _, ⟨hx0, ht0, hpa0, hsn0, hv0, hch0, htu0, hob⟩, (gup_off e2 (by omega) ((ha_1 _ (fun h => Or.elim h (fun h3 => by have h4 := h3.1; have h5 := h3.2; omega) (fun h3 => by have h4 : b ≤ _ := h3; omega))).trans ho0)), hSt, ⟨_, _, _, _, hTx⟩, hPa, (gup_off e2 (by omega) ((ha_1 _ (fun h => Or.elim h (fun h3 => by have h4 := h3.1; have h5 := h3.2; omega) (fun h3 => by have h4 : b ≤ _ := h3; omega))).trans hsn)), ⟨_, _, _, _, hVo⟩, ⟨_, _, _, hCh⟩, ⟨_, hTu⟩, hPl, hg_1, hkp, htn, recP_le _⟩ hzl hzu hag))
    · refine lv_bipush (v := (-2)) hx hb dX7_setSort_22 (by decide) ?_
      refine W.widen (k := 17) (n := 789) (Nat.le_of_ble_eq_true rfl) (Nat.le_of_ble_eq_true rfl) ?_
      exact g_iret (z := sz) hx hb hr hlk hz hP hL hS dX7_setSort_24 (gxi_i (wP_n (by unfold o_setSort; rw [if_pos (by first | exact c8 | exact nb c8 | exact Ne.symm c8 | exact fun q => q c8 | exact fun q => q c8.symm | omega), if_neg (by first | exact c19 | exact nb c19 | exact Ne.symm c19 | exact fun q => q c19 | exact fun q => q c19.symm | omega)]) ⟨x, t, pa, sn, v, ch, tu, _, _, ⟨hx0, ht0, hpa0, hsn0, hv0, hch0, htu0, hob⟩, ho0, hSt, ⟨_, _, _, _, hTx⟩, hPa, hsn, ⟨_, _, _, _, hVo⟩, ⟨_, _, _, hCh⟩, ⟨_, hTu⟩, hPl, hg, hkp, htn, hP5⟩ (Nat.le_refl _) (by omega) hag))
  · refine lv_iconst (v := (-1)) hx hb dX7_setSort_11 (by decide) ?_
    refine W.widen (k := 17) (n := 789) (Nat.le_of_ble_eq_true rfl) (Nat.le_of_ble_eq_true rfl) ?_
    exact g_iret (z := sz) hx hb hr hlk hz hP hL hS dX7_setSort_12 (gxi_i (wP_n (by unfold o_setSort; rw [if_neg (by first | exact c8 | exact nb c8 | exact Ne.symm c8 | exact fun q => q c8 | exact fun q => q c8.symm | omega)]) ⟨x, t, pa, sn, v, ch, tu, _, _, ⟨hx0, ht0, hpa0, hsn0, hv0, hch0, htu0, hob⟩, ho0, hSt, ⟨_, _, _, _, hTx⟩, hPa, hsn, ⟨_, _, _, _, hVo⟩, ⟨_, _, _, hCh⟩, ⟨_, hTu⟩, hPl, hg, hkp, htn, hP5⟩ (Nat.le_refl _) (by omega) hag))

theorem nX7_addSinger_X4 : ∀ w ∈ wsX40, w ∈ wsX7_addSinger := by decide +kernel
theorem nX7_addSinger_X7 : ∀ w ∈ wsX70, w ∈ wsX7_addSinger := by decide +kernel
set_option maxHeartbeats 4000000 in
set_option maxRecDepth 100000 in
theorem c_X7_addSinger (l : Launch) (o b : Nat) (S : sS) (tf : Nat → Int32) (tn P : Nat) (C : Nat → sS) (kp : Nat → Bool) (a1 a2 : Int32) (σ : gS) (sz : Nat) (hW : Wo σ o b S tf tn P C kp sz) (hok : okS S) : gM l yX7_addSinger wsX7_addSinger ({ frames := 4, cells := 17, slots := 789, locals := 86 } : Room) 17 789 [.ref o, .int a1, .int a2] σ sz (gxi (fun r τ n => wP o b σ S tf tn P C kp sz (o_addSinger S a1 a2) r τ n)) := by
  refine gM_of (cc := cX7_addSinger) (maxL := 3) (ret := (some .int)) (by decide) rfl (Nat.le_of_ble_eq_true rfl) ?_
  intro D ka lo hL hlo p e s m below meth c hx hb hr hts hown hml hlk hnm hK H locs ls hz hP hS hl
  have hl : lv_has ls 3 [(0, .ref o), (1, .int a1), (2, .int a2)] := hl
  have hown : s.vm.findClass RX7 = some m.cls := hown
  obtain ⟨x, t, pa, sn, v, ch, tu, g, sg, ⟨hx0, ht0, hpa0, hsn0, hv0, hch0, htu0, hob⟩, ho0, hSt, ⟨ta, tso, tld, tti, hTx⟩, hPa, hsn, ⟨vd, vf, vb, vw, hVo⟩, ⟨ca, cb, cd, hCh⟩, ⟨lf, hTu⟩, hPl, hg, hkp, htn, hP5⟩ := hW
  obtain ⟨hB, hN, hKs, hRs⟩ := hok
  have hbz := hPl.1
  have hag : gAs (Zc o b) σ σ := gAs.rf
  refine lv_iload_n hx hb dX7_addSinger_0 rfl (lv_at hl 1 rfl) ?_
  refine lv_iconst (v := (nI 4)) hx hb dX7_addSinger_1 (by decide) ?_
  refine lv_bipush (v := (nI 40)) hx hb dX7_addSinger_2 (by decide) ?_
  refine g_runS (As := [.int a1, .int (nI 4), .int (nI 40)]) (rest := []) (own := RX7) 3 hx hb hml hown hts hK hz hP hL hS hlo hl.1 (c_X7_isWithin l a1 ((nI 4)) ((nI 40)) σ sz) gX7_addSinger_X7_isWithin rfl rfl rfl (by decide +kernel) ⟨Nat.le_of_ble_eq_true rfl, Nat.le_of_ble_eq_true rfl⟩ rfl rfl (Nat.le_of_ble_eq_true rfl) dX7_addSinger_4 ⟨Nat.le_of_ble_eq_true rfl, Nat.le_of_ble_eq_true rfl⟩ (g_ki0 (fun H locs hz hP hL hS => ?_))
  refine g_ifb_eq (tgt := 20) hx hb dX7_addSinger_7 (by decide) (fun c7 => ?_) (fun c7 => ?_)
  · refine lv_bipush (v := (-2)) hx hb dX7_addSinger_20 (by decide) ?_
    refine W.widen (k := 17) (n := 789) (Nat.le_of_ble_eq_true rfl) (Nat.le_of_ble_eq_true rfl) ?_
    exact g_iret (z := sz) hx hb hr hlk hz hP hL hS dX7_addSinger_22 (gxi_i (wP_n (by unfold o_addSinger; rw [if_neg (by first | exact c7 | exact nb c7 | exact Ne.symm c7 | exact fun q => q c7 | exact fun q => q c7.symm | omega)]) ⟨x, t, pa, sn, v, ch, tu, _, _, ⟨hx0, ht0, hpa0, hsn0, hv0, hch0, htu0, hob⟩, ho0, hSt, ⟨_, _, _, _, hTx⟩, hPa, hsn, ⟨_, _, _, _, hVo⟩, ⟨_, _, _, hCh⟩, ⟨_, hTu⟩, hPl, hg, hkp, htn, hP5⟩ (Nat.le_refl _) (by omega) hag))
  · refine lv_iload_n hx hb dX7_addSinger_10 rfl (lv_at hl 2 rfl) ?_
    refine lv_iconst (v := (nI 1)) hx hb dX7_addSinger_11 (by decide) ?_
    refine lv_bipush (v := (nI 10)) hx hb dX7_addSinger_12 (by decide) ?_
    refine g_runS (As := [.int a2, .int (nI 1), .int (nI 10)]) (rest := []) (own := RX7) 3 hx hb hml hown hts hK hz hP hL hS hlo hl.1 (c_X7_isWithin l a2 ((nI 1)) ((nI 10)) σ sz) gX7_addSinger_X7_isWithin rfl rfl rfl (by decide +kernel) ⟨Nat.le_of_ble_eq_true rfl, Nat.le_of_ble_eq_true rfl⟩ rfl rfl (Nat.le_of_ble_eq_true rfl) dX7_addSinger_14 ⟨Nat.le_of_ble_eq_true rfl, Nat.le_of_ble_eq_true rfl⟩ (g_ki0 (fun H locs hz hP hL hS => ?_))
    refine g_ifb_ne (tgt := 23) hx hb dX7_addSinger_17 (by decide) (fun c17 => ?_) (fun c17 => ?_)
    · refine lv_aload_n hx hb dX7_addSinger_23 rfl (lv_at hl 0 rfl) ?_
      refine g_get (C := RX7) (T := TX7) (N := 7) hx hb hts hown hK hP ho0 nX7_addSinger_X7 rfl 0 (by decide) (by decide +kernel) rfl (v := .ref x) rfl dX7_addSinger_24 ?_
      refine g_get (C := RX4) (T := TX4) (N := 13) hx hb hts hown hK hP hSt.c0 nX7_addSinger_X4 rfl 1 (by decide) (by decide +kernel) rfl (v := .int (nI (sN S))) rfl dX7_addSinger_27 ?_
      refine lv_bipush (v := (nI 12)) hx hb dX7_addSinger_30 (by decide) ?_
      refine g_icmp_lt (tgt := 38) (a := sN S) (b := 12) hx hb (by omega) (by omega) dX7_addSinger_32 (by decide) (fun c32 => ?_) (fun c32 => ?_)
      · refine lv_aload_n hx hb dX7_addSinger_38 rfl (lv_at hl 0 rfl) ?_
        refine g_get (C := RX7) (T := TX7) (N := 7) hx hb hts hown hK hP ho0 nX7_addSinger_X7 rfl 2 (by decide) (by decide +kernel) rfl (v := .ref pa) rfl dX7_addSinger_39 ?_
        refine lv_aload_n hx hb dX7_addSinger_42 rfl (lv_at hl 0 rfl) ?_
        refine g_get (C := RX7) (T := TX7) (N := 7) hx hb hts hown hK hP ho0 nX7_addSinger_X7 rfl 0 (by decide) (by decide +kernel) rfl (v := .ref x) rfl dX7_addSinger_43 ?_
        refine g_runV (As := [.ref x]) (rest := []) (own := RX7) (C := RX1) (T := TX1) (N := 2) 1 hx hb hml hown hts hK hz hP hL hS hlo hl.1 (c_X1_record l pa b x P g sg C S σ sz hPa hPl (by omega) hSt (by omega) (by omega) hP5 hg ⟨by omega, by omega, by omega, by omega⟩) gX7_addSinger_X1_record rfl rfl rfl (by decide +kernel) ⟨Nat.le_of_ble_eq_true rfl, Nat.le_of_ble_eq_true rfl⟩ hPa.c0 rfl rfl rfl (Nat.le_of_ble_eq_true rfl) dX7_addSinger_46 ⟨Nat.le_of_ble_eq_true rfl, Nat.le_of_ble_eq_true rfl⟩ (g_kxv (fun τ_1 H locs z_1 hz hp hP hL hS => ?_))
        obtain ⟨g_1, hzl, hzu, hp_1, hl_1, hg_1, hs_1, ha_1⟩ := hp
        have hTx := hTx.fr (τ := τ_1) (fun q h1 h2 => ha_1 q (fun h => Or.elim h (fun h3 => by have h4 := h3.1; have h5 := h3.2; omega) (fun h3 => by have h4 : b ≤ _ := h3; omega)))
        have hVo := hVo.fr (τ := τ_1) (fun q h1 h2 => ha_1 q (fun h => Or.elim h (fun h3 => by have h4 := h3.1; have h5 := h3.2; omega) (fun h3 => by have h4 : b ≤ _ := h3; omega)))
        have hCh := hCh.fr (τ := τ_1) (fun q h1 h2 => ha_1 q (fun h => Or.elim h (fun h3 => by have h4 := h3.1; have h5 := h3.2; omega) (fun h3 => by have h4 : b ≤ _ := h3; omega)))
        have hTu := hTu.fr (τ := τ_1) (fun q h1 h2 => ha_1 q (fun h => Or.elim h (fun h3 => by have h4 := h3.1; have h5 := h3.2; omega) (fun h3 => by have h4 : b ≤ _ := h3; omega)))
        have hPa := hp_1
        have hSt := hs_1
        have hag := hag.tr ha_1 (fun q h => Or.elim h (fun h3 => .inl ⟨by have h4 := h3.1; omega, by have h4 := h3.2; omega⟩) (fun h3 => .inr h3))
        have hPl := hl_1
        have hbz := hPl.1
        have hlo : lo ≤ z_1 := Nat.le_trans hlo hzl
        refine lv_aload_n hx hb dX7_addSinger_49 rfl (lv_at hl 0 rfl) ?_
        refine g_get (C := RX7) (T := TX7) (N := 7) hx hb hts hown hK hP ((ha_1 _ (fun h => Or.elim h (fun h3 => by have h4 := h3.1; have h5 := h3.2; omega) (fun h3 => by have h4 : b ≤ _ := h3; omega))).trans ho0) nX7_addSinger_X7 rfl 0 (by decide) (by decide +kernel) rfl (v := .ref x) rfl dX7_addSinger_50 ?_
        refine lv_iload_n hx hb dX7_addSinger_53 rfl (lv_at hl 1 rfl) ?_
        refine lv_iload_n hx hb dX7_addSinger_54 rfl (lv_at hl 2 rfl) ?_
        refine g_runV (As := [.int a1, .int a2]) (rest := []) (own := RX7) (C := RX4) (T := TX4) (N := 13) 2 hx hb hml hown hts hK hz hP hL hS hlo hl.1 (c_X4_appendSinger l x S a1 a2 τ_1 z_1 hSt (by omega)) gX7_addSinger_X4_appendSinger rfl rfl rfl (by decide +kernel) ⟨Nat.le_of_ble_eq_true rfl, Nat.le_of_ble_eq_true rfl⟩ hSt.c0 rfl rfl rfl (Nat.le_of_ble_eq_true rfl) dX7_addSinger_55 ⟨Nat.le_of_ble_eq_true rfl, Nat.le_of_ble_eq_true rfl⟩ (g_kxi0 (fun r_4 τ_2 H locs z1 hz hp hP hL hS => ?_))
        obtain ⟨h_3r, hz1, h_3n, h_3a⟩ := hp
        have hz := hz.trans hz1
        have hTx := hTx.fr (τ := τ_2) (fun q h1 h2 => h_3a q (fun h => by have h3 := h.1; have h4 := h.2; omega))
        have hPa := hPa.fr (τ := τ_2) (fun q h1 h2 => h_3a q (fun h => by have h3 := h.1; have h4 := h.2; omega))
        have hVo := hVo.fr (τ := τ_2) (fun q h1 h2 => h_3a q (fun h => by have h3 := h.1; have h4 := h.2; omega))
        have hCh := hCh.fr (τ := τ_2) (fun q h1 h2 => h_3a q (fun h => by have h3 := h.1; have h4 := h.2; omega))
        have hTu := hTu.fr (τ := τ_2) (fun q h1 h2 => h_3a q (fun h => by have h3 := h.1; have h4 := h.2; omega))
        have hPl := hPl.fr (τ := τ_2) (fun q h1 h2 => h_3a q (fun h => by have h3 := h.1; have h4 := h.2; omega))
        have hSt := h_3n
        have hag := hag.tr h_3a (fun q h => .inl ⟨by have h3 := h.1; omega, by have h3 := h.2; omega⟩)
        subst h_3r
        refine W.widen (k := 17) (n := 789) (Nat.le_of_ble_eq_true rfl) (Nat.le_of_ble_eq_true rfl) ?_
        exact g_iret (z := z_1) hx hb hr hlk hz hP hL hS dX7_addSinger_58 (gxi_i (wP_s (by unfold o_addSinger; rw [if_pos (by first | exact c7 | exact nb c7 | exact Ne.symm c7 | exact fun q => q c7 | exact fun q => q c7.symm | omega), if_pos (by first | exact c17 | exact nb c17 | exact Ne.symm c17 | exact fun q => q c17 | exact fun q => q c17.symm | omega), if_pos (by first | exact c32 | exact nb c32 | exact Ne.symm c32 | exact fun q => q c32 | exact fun q => q c32.symm | omega)]) ⟨x, t, pa, sn, v, ch, tu, _, _, ⟨hx0, ht0, hpa0, hsn0, hv0, hch0, htu0, hob⟩, ((h_3a _ (fun h => by have h3 := h.1; have h4 := h.2; omega)).trans ((ha_1 _ (fun h => Or.elim h (fun h3 => by have h4 := h3.1; have h5 := h3.2; omega) (fun h3 => by have h4 : b ≤ _ := h3; omega))).trans ho0)), hSt, ⟨_, _, _, _, hTx⟩, hPa, ((h_3a _ (fun h => by have h3 := h.1; have h4 := h.2; omega)).trans ((ha_1 _ (fun h => Or.elim h (fun h3 => by have h4 := h3.1; have h5 := h3.2; omega) (fun h3 => by have h4 : b ≤ _ := h3; omega))).trans hsn)), ⟨_, _, _, _, hVo⟩, ⟨_, _, _, hCh⟩, ⟨_, hTu⟩, hPl, hg_1, hkp, htn, recP_le _⟩ hzl hzu hag))
      · refine lv_bipush (v := (-3)) hx hb dX7_addSinger_35 (by decide) ?_
        refine W.widen (k := 17) (n := 789) (Nat.le_of_ble_eq_true rfl) (Nat.le_of_ble_eq_true rfl) ?_
        exact g_iret (z := sz) hx hb hr hlk hz hP hL hS dX7_addSinger_37 (gxi_i (wP_n (by unfold o_addSinger; rw [if_pos (by first | exact c7 | exact nb c7 | exact Ne.symm c7 | exact fun q => q c7 | exact fun q => q c7.symm | omega), if_pos (by first | exact c17 | exact nb c17 | exact Ne.symm c17 | exact fun q => q c17 | exact fun q => q c17.symm | omega), if_neg (by first | exact c32 | exact nb c32 | exact Ne.symm c32 | exact fun q => q c32 | exact fun q => q c32.symm | omega)]) ⟨x, t, pa, sn, v, ch, tu, _, _, ⟨hx0, ht0, hpa0, hsn0, hv0, hch0, htu0, hob⟩, ho0, hSt, ⟨_, _, _, _, hTx⟩, hPa, hsn, ⟨_, _, _, _, hVo⟩, ⟨_, _, _, hCh⟩, ⟨_, hTu⟩, hPl, hg, hkp, htn, hP5⟩ (Nat.le_refl _) (by omega) hag))
    · refine lv_bipush (v := (-2)) hx hb dX7_addSinger_20 (by decide) ?_
      refine W.widen (k := 17) (n := 789) (Nat.le_of_ble_eq_true rfl) (Nat.le_of_ble_eq_true rfl) ?_
      exact g_iret (z := sz) hx hb hr hlk hz hP hL hS dX7_addSinger_22 (gxi_i (wP_n (by unfold o_addSinger; rw [if_pos (by first | exact c7 | exact nb c7 | exact Ne.symm c7 | exact fun q => q c7 | exact fun q => q c7.symm | omega), if_neg (by first | exact c17 | exact nb c17 | exact Ne.symm c17 | exact fun q => q c17 | exact fun q => q c17.symm | omega)]) ⟨x, t, pa, sn, v, ch, tu, _, _, ⟨hx0, ht0, hpa0, hsn0, hv0, hch0, htu0, hob⟩, ho0, hSt, ⟨_, _, _, _, hTx⟩, hPa, hsn, ⟨_, _, _, _, hVo⟩, ⟨_, _, _, hCh⟩, ⟨_, hTu⟩, hPl, hg, hkp, htn, hP5⟩ (Nat.le_refl _) (by omega) hag))

theorem nX7_setPresent_X4 : ∀ w ∈ wsX40, w ∈ wsX7_setPresent := by decide +kernel
theorem nX7_setPresent_X7 : ∀ w ∈ wsX70, w ∈ wsX7_setPresent := by decide +kernel
set_option maxHeartbeats 4000000 in
set_option maxRecDepth 100000 in
theorem c_X7_setPresent (l : Launch) (o b : Nat) (S : sS) (tf : Nat → Int32) (tn P : Nat) (C : Nat → sS) (kp : Nat → Bool) (a1 : Int32) (a2 : Bool) (σ : gS) (sz : Nat) (hW : Wo σ o b S tf tn P C kp sz) (hok : okS S) : gM l yX7_setPresent wsX7_setPresent ({ frames := 4, cells := 17, slots := 789, locals := 86 } : Room) 17 789 [.ref o, .int a1, .int (bI a2)] σ sz (gxi (fun r τ n => wP o b σ S tf tn P C kp sz (o_setPresent S a1 a2) r τ n)) := by
  refine gM_of (cc := cX7_setPresent) (maxL := 3) (ret := (some .int)) (by decide) rfl (Nat.le_of_ble_eq_true rfl) ?_
  intro D ka lo hL hlo p e s m below meth c hx hb hr hts hown hml hlk hnm hK H locs ls hz hP hS hl
  have hl : lv_has ls 3 [(0, .ref o), (1, .int a1), (2, .int (bI a2))] := hl
  have hown : s.vm.findClass RX7 = some m.cls := hown
  obtain ⟨x, t, pa, sn, v, ch, tu, g, sg, ⟨hx0, ht0, hpa0, hsn0, hv0, hch0, htu0, hob⟩, ho0, hSt, ⟨ta, tso, tld, tti, hTx⟩, hPa, hsn, ⟨vd, vf, vb, vw, hVo⟩, ⟨ca, cb, cd, hCh⟩, ⟨lf, hTu⟩, hPl, hg, hkp, htn, hP5⟩ := hW
  obtain ⟨hB, hN, hKs, hRs⟩ := hok
  have hbz := hPl.1
  have hag : gAs (Zc o b) σ σ := gAs.rf
  refine lv_aload_n hx hb dX7_setPresent_0 rfl (lv_at hl 0 rfl) ?_
  refine g_get (C := RX7) (T := TX7) (N := 7) hx hb hts hown hK hP ho0 nX7_setPresent_X7 rfl 0 (by decide) (by decide +kernel) rfl (v := .ref x) rfl dX7_setPresent_1 ?_
  refine lv_iload_n hx hb dX7_setPresent_4 rfl (lv_at hl 1 rfl) ?_
  refine g_runV (As := [.int a1]) (rest := []) (own := RX7) (C := RX4) (T := TX4) (N := 13) 1 hx hb hml hown hts hK hz hP hL hS hlo hl.1 (c_X4_hasSinger l x S a1 σ sz hSt) gX7_setPresent_X4_hasSinger rfl rfl rfl (by decide +kernel) ⟨Nat.le_of_ble_eq_true rfl, Nat.le_of_ble_eq_true rfl⟩ hSt.c0 rfl rfl rfl (Nat.le_of_ble_eq_true rfl) dX7_setPresent_5 ⟨Nat.le_of_ble_eq_true rfl, Nat.le_of_ble_eq_true rfl⟩ (g_ki0 (fun H locs hz hP hL hS => ?_))
  refine g_ifb_ne (tgt := 13) hx hb dX7_setPresent_8 (by decide) (fun c8 => ?_) (fun c8 => ?_)
  · obtain ⟨ha1e, ha1l⟩ := tk_in c8 (by omega)
    refine lv_aload_n hx hb dX7_setPresent_13 rfl (lv_at hl 0 rfl) ?_
    refine g_get (C := RX7) (T := TX7) (N := 7) hx hb hts hown hK hP ho0 nX7_setPresent_X7 rfl 0 (by decide) (by decide +kernel) rfl (v := .ref x) rfl dX7_setPresent_14 ?_
    refine lv_iload_n hx hb dX7_setPresent_17 rfl (lv_at hl 1 rfl) ?_
    refine g_top (y := (nI (tk a1))) ha1e ?_
    refine g_runV (As := [.int (nI (tk a1))]) (rest := []) (own := RX7) (C := RX4) (T := TX4) (N := 13) 1 hx hb hml hown hts hK hz hP hL hS hlo hl.1 (c_X4_isPresent l x S (tk a1) σ sz hSt) gX7_setPresent_X4_isPresent rfl rfl rfl (by decide +kernel) ⟨Nat.le_of_ble_eq_true rfl, Nat.le_of_ble_eq_true rfl⟩ hSt.c0 rfl rfl rfl (Nat.le_of_ble_eq_true rfl) dX7_setPresent_18 ⟨Nat.le_of_ble_eq_true rfl, Nat.le_of_ble_eq_true rfl⟩ (g_ki0 (fun H locs hz hP hL hS => ?_))
    refine lv_iload_n hx hb dX7_setPresent_21 rfl (lv_at hl 2 rfl) ?_
    refine g_icmpb_ne (tgt := 28) hx hb dX7_setPresent_22 (by decide) (fun c22 => ?_) (fun c22 => ?_)
    · refine lv_aload_n hx hb dX7_setPresent_28 rfl (lv_at hl 0 rfl) ?_
      refine g_get (C := RX7) (T := TX7) (N := 7) hx hb hts hown hK hP ho0 nX7_setPresent_X7 rfl 2 (by decide) (by decide +kernel) rfl (v := .ref pa) rfl dX7_setPresent_29 ?_
      refine lv_aload_n hx hb dX7_setPresent_32 rfl (lv_at hl 0 rfl) ?_
      refine g_get (C := RX7) (T := TX7) (N := 7) hx hb hts hown hK hP ho0 nX7_setPresent_X7 rfl 0 (by decide) (by decide +kernel) rfl (v := .ref x) rfl dX7_setPresent_33 ?_
      refine g_runV (As := [.ref x]) (rest := []) (own := RX7) (C := RX1) (T := TX1) (N := 2) 1 hx hb hml hown hts hK hz hP hL hS hlo hl.1 (c_X1_record l pa b x P g sg C S σ sz hPa hPl (by omega) hSt (by omega) (by omega) hP5 hg ⟨by omega, by omega, by omega, by omega⟩) gX7_setPresent_X1_record rfl rfl rfl (by decide +kernel) ⟨Nat.le_of_ble_eq_true rfl, Nat.le_of_ble_eq_true rfl⟩ hPa.c0 rfl rfl rfl (Nat.le_of_ble_eq_true rfl) dX7_setPresent_36 ⟨Nat.le_of_ble_eq_true rfl, Nat.le_of_ble_eq_true rfl⟩ (g_kxv (fun τ_1 H locs z_1 hz hp hP hL hS => ?_))
      obtain ⟨g_1, hzl, hzu, hp_1, hl_1, hg_1, hs_1, ha_1⟩ := hp
      have hTx := hTx.fr (τ := τ_1) (fun q h1 h2 => ha_1 q (fun h => Or.elim h (fun h3 => by have h4 := h3.1; have h5 := h3.2; omega) (fun h3 => by have h4 : b ≤ _ := h3; omega)))
      have hVo := hVo.fr (τ := τ_1) (fun q h1 h2 => ha_1 q (fun h => Or.elim h (fun h3 => by have h4 := h3.1; have h5 := h3.2; omega) (fun h3 => by have h4 : b ≤ _ := h3; omega)))
      have hCh := hCh.fr (τ := τ_1) (fun q h1 h2 => ha_1 q (fun h => Or.elim h (fun h3 => by have h4 := h3.1; have h5 := h3.2; omega) (fun h3 => by have h4 : b ≤ _ := h3; omega)))
      have hTu := hTu.fr (τ := τ_1) (fun q h1 h2 => ha_1 q (fun h => Or.elim h (fun h3 => by have h4 := h3.1; have h5 := h3.2; omega) (fun h3 => by have h4 : b ≤ _ := h3; omega)))
      have hPa := hp_1
      have hSt := hs_1
      have hag := hag.tr ha_1 (fun q h => Or.elim h (fun h3 => .inl ⟨by have h4 := h3.1; omega, by have h4 := h3.2; omega⟩) (fun h3 => .inr h3))
      have hPl := hl_1
      have hbz := hPl.1
      have hlo : lo ≤ z_1 := Nat.le_trans hlo hzl
      refine lv_aload_n hx hb dX7_setPresent_39 rfl (lv_at hl 0 rfl) ?_
      refine g_get (C := RX7) (T := TX7) (N := 7) hx hb hts hown hK hP ((ha_1 _ (fun h => Or.elim h (fun h3 => by have h4 := h3.1; have h5 := h3.2; omega) (fun h3 => by have h4 : b ≤ _ := h3; omega))).trans ho0) nX7_setPresent_X7 rfl 0 (by decide) (by decide +kernel) rfl (v := .ref x) rfl dX7_setPresent_40 ?_
      refine lv_dup hx hb dX7_setPresent_43 rfl ?_
      refine g_get (C := RX4) (T := TX4) (N := 13) hx hb hts hown hK hP hSt.c0 nX7_setPresent_X4 rfl 2 (by decide) (by decide +kernel) rfl (v := .int (S 8 2)) rfl dX7_setPresent_44 ?_
      refine lv_iload_n hx hb dX7_setPresent_47 rfl (lv_at hl 1 rfl) ?_
      refine g_top (y := (nI (tk a1))) ha1e ?_
      refine g_runS (As := [.int (nI (tk a1))]) (rest := [.int (S 8 2), .ref x]) (own := RX7) 1 hx hb hml hown hts hK hz hP hL hS hlo hl.1 (c_X7_bit l (tk a1) τ_1 z_1) gX7_setPresent_X7_bit rfl rfl rfl (by decide +kernel) ⟨Nat.le_of_ble_eq_true rfl, Nat.le_of_ble_eq_true rfl⟩ rfl rfl (Nat.le_of_ble_eq_true rfl) dX7_setPresent_48 ⟨Nat.le_of_ble_eq_true rfl, Nat.le_of_ble_eq_true rfl⟩ (g_ki0 (fun H locs hz hP hL hS => ?_))
      refine lv_ixor hx hb dX7_setPresent_51 ?_
      refine g_put (C := RX4) (T := TX4) (N := 13) hx hb hts hown hK hP hL hS hSt.c0 nX7_setPresent_X4 tyX4 tyX4_ok nmX4 rfl 2 (by decide) (by decide +kernel) rfl rfl (v := .int ((S 8 2) ^^^ (bitI (tk a1)))) rfl rfl (Nat.le_of_ble_eq_true rfl) dX7_setPresent_52 (fun H locs hq hP hL hS => ?_)
      have hz := hq.trans hz
      obtain ⟨σ2, e2⟩ : ∃ υ0 : gS, υ0 = gup τ_1 x (gO 4 [.int (nI (sB S)), .int (nI (sN S)), .int ((S 8 2) ^^^ (bitI (tk a1))), .int (nI (sK S)), .int (nI (sR S)), .ref (x + 1), .ref (x + 3), .ref (x + 5), .ref (x + 7), .ref (x + 9), .ref (x + 11), .ref (x + 13), .ref (x + 15)]) := ⟨_, rfl⟩
      have hP : gH D ka σ2 H := by rw [e2]; exact hP
      have hL : gL lo σ2 := by rw [e2]; exact hL
      have hTx := hTx.fr (τ := σ2) (fun q h1 h2 => gup_eq e2 (by omega))
      have hPa := hPa.fr (τ := σ2) (fun q h1 h2 => gup_eq e2 (by omega))
      have hVo := hVo.fr (τ := σ2) (fun q h1 h2 => gup_eq e2 (by omega))
      have hCh := hCh.fr (τ := σ2) (fun q h1 h2 => gup_eq e2 (by omega))
      have hTu := hTu.fr (τ := σ2) (fun q h1 h2 => gup_eq e2 (by omega))
      have hPl := hPl.fr (τ := σ2) (fun q h1 h2 => gup_eq e2 (by omega))
      have hSt : StAt σ2 x (sPut S 8 2 ((S 8 2) ^^^ (bitI (tk a1)))) := by rw [e2]; exact hSt.p2 (((S 8 2) ^^^ (bitI (tk a1))))
      have hag := hag.upe e2 (.inl ⟨by omega, by omega⟩)
      refine lv_aload_n hx hb dX7_setPresent_55 rfl (lv_at hl 0 rfl) ?_
      refine g_get (C := RX7) (T := TX7) (N := 7) hx hb hts hown hK hP (gup_off e2 (by omega) ((ha_1 _ (fun h => Or.elim h (fun h3 => by have h4 := h3.1; have h5 := h3.2; omega) (fun h3 => by have h4 : b ≤ _ := h3; omega))).trans ho0)) nX7_setPresent_X7 rfl 0 (by decide) (by decide +kernel) rfl (v := .ref x) rfl dX7_setPresent_56 ?_
      refine g_runV (As := []) (rest := []) (own := RX7) (C := RX4) (T := TX4) (N := 13) 0 hx hb hml hown hts hK hz hP hL hS hlo hl.1 (c_X4_countPresent l x (sPut S 8 2 ((S 8 2) ^^^ (bitI (tk a1))))  σ2 z_1 hSt) gX7_setPresent_X4_countPresent rfl rfl rfl (by decide +kernel) ⟨Nat.le_of_ble_eq_true rfl, Nat.le_of_ble_eq_true rfl⟩ hSt.c0 rfl rfl rfl (Nat.le_of_ble_eq_true rfl) dX7_setPresent_59 ⟨Nat.le_of_ble_eq_true rfl, Nat.le_of_ble_eq_true rfl⟩ (g_ki0 (fun H locs hz hP hL hS => ?_))
      refine W.widen (k := 17) (n := 789) (Nat.le_of_ble_eq_true rfl) (Nat.le_of_ble_eq_true rfl) ?_
      exact g_iret (z := z_1) hx hb hr hlk hz hP hL hS dX7_setPresent_62 (gxi_i (wP_s (by unfold o_setPresent; rw [if_pos (by first | exact c8 | exact nb c8 | exact Ne.symm c8 | exact fun q => q c8 | exact fun q => q c8.symm | omega), if_pos (by first | exact c22 | exact nb c22 | exact Ne.symm c22 | exact fun q => q c22 | exact fun q => q c22.symm | omega)]) ⟨x, t, pa, sn, v, ch, tu, _, _, ⟨hx0, ht0, hpa0, hsn0, hv0, hch0, htu0, hob⟩, (gup_off e2 (by omega) ((ha_1 _ (fun h => Or.elim h (fun h3 => by have h4 := h3.1; have h5 := h3.2; omega) (fun h3 => by have h4 : b ≤ _ := h3; omega))).trans ho0)), hSt, ⟨_, _, _, _, hTx⟩, hPa, (gup_off e2 (by omega) ((ha_1 _ (fun h => Or.elim h (fun h3 => by have h4 := h3.1; have h5 := h3.2; omega) (fun h3 => by have h4 : b ≤ _ := h3; omega))).trans hsn)), ⟨_, _, _, _, hVo⟩, ⟨_, _, _, hCh⟩, ⟨_, hTu⟩, hPl, hg_1, hkp, htn, recP_le _⟩ hzl hzu hag))
    · refine lv_bipush (v := (-5)) hx hb dX7_setPresent_25 (by decide) ?_
      refine W.widen (k := 17) (n := 789) (Nat.le_of_ble_eq_true rfl) (Nat.le_of_ble_eq_true rfl) ?_
      exact g_iret (z := sz) hx hb hr hlk hz hP hL hS dX7_setPresent_27 (gxi_i (wP_n (by unfold o_setPresent; rw [if_pos (by first | exact c8 | exact nb c8 | exact Ne.symm c8 | exact fun q => q c8 | exact fun q => q c8.symm | omega), if_neg (by first | exact c22 | exact nb c22 | exact Ne.symm c22 | exact fun q => q c22 | exact fun q => q c22.symm | omega)]) ⟨x, t, pa, sn, v, ch, tu, _, _, ⟨hx0, ht0, hpa0, hsn0, hv0, hch0, htu0, hob⟩, ho0, hSt, ⟨_, _, _, _, hTx⟩, hPa, hsn, ⟨_, _, _, _, hVo⟩, ⟨_, _, _, hCh⟩, ⟨_, hTu⟩, hPl, hg, hkp, htn, hP5⟩ (Nat.le_refl _) (by omega) hag))
  · refine lv_iconst (v := (-1)) hx hb dX7_setPresent_11 (by decide) ?_
    refine W.widen (k := 17) (n := 789) (Nat.le_of_ble_eq_true rfl) (Nat.le_of_ble_eq_true rfl) ?_
    exact g_iret (z := sz) hx hb hr hlk hz hP hL hS dX7_setPresent_12 (gxi_i (wP_n (by unfold o_setPresent; rw [if_neg (by first | exact c8 | exact nb c8 | exact Ne.symm c8 | exact fun q => q c8 | exact fun q => q c8.symm | omega)]) ⟨x, t, pa, sn, v, ch, tu, _, _, ⟨hx0, ht0, hpa0, hsn0, hv0, hch0, htu0, hob⟩, ho0, hSt, ⟨_, _, _, _, hTx⟩, hPa, hsn, ⟨_, _, _, _, hVo⟩, ⟨_, _, _, hCh⟩, ⟨_, hTu⟩, hPl, hg, hkp, htn, hP5⟩ (Nat.le_refl _) (by omega) hag))

theorem nX7_addSolo_X4 : ∀ w ∈ wsX40, w ∈ wsX7_addSolo := by decide +kernel
theorem nX7_addSolo_X7 : ∀ w ∈ wsX70, w ∈ wsX7_addSolo := by decide +kernel
set_option maxHeartbeats 4000000 in
set_option maxRecDepth 100000 in
theorem c_X7_addSolo (l : Launch) (o b : Nat) (S : sS) (tf : Nat → Int32) (tn P : Nat) (C : Nat → sS) (kp : Nat → Bool) (a1 a2 a3 : Int32) (σ : gS) (sz : Nat) (hW : Wo σ o b S tf tn P C kp sz) (hok : okS S) : gM l yX7_addSolo wsX7_addSolo ({ frames := 4, cells := 17, slots := 789, locals := 86 } : Room) 17 789 [.ref o, .int a1, .int a2, .int a3] σ sz (gxi (fun r τ n => wP o b σ S tf tn P C kp sz (o_addSolo S a1 a2 a3) r τ n)) := by
  refine gM_of (cc := cX7_addSolo) (maxL := 4) (ret := (some .int)) (by decide) rfl (Nat.le_of_ble_eq_true rfl) ?_
  intro D ka lo hL hlo p e s m below meth c hx hb hr hts hown hml hlk hnm hK H locs ls hz hP hS hl
  have hl : lv_has ls 4 [(0, .ref o), (1, .int a1), (2, .int a2), (3, .int a3)] := hl
  have hown : s.vm.findClass RX7 = some m.cls := hown
  obtain ⟨x, t, pa, sn, v, ch, tu, g, sg, ⟨hx0, ht0, hpa0, hsn0, hv0, hch0, htu0, hob⟩, ho0, hSt, ⟨ta, tso, tld, tti, hTx⟩, hPa, hsn, ⟨vd, vf, vb, vw, hVo⟩, ⟨ca, cb, cd, hCh⟩, ⟨lf, hTu⟩, hPl, hg, hkp, htn, hP5⟩ := hW
  obtain ⟨hB, hN, hKs, hRs⟩ := hok
  have hbz := hPl.1
  have hag : gAs (Zc o b) σ σ := gAs.rf
  refine lv_aload_n hx hb dX7_addSolo_0 rfl (lv_at hl 0 rfl) ?_
  refine g_get (C := RX7) (T := TX7) (N := 7) hx hb hts hown hK hP ho0 nX7_addSolo_X7 rfl 0 (by decide) (by decide +kernel) rfl (v := .ref x) rfl dX7_addSolo_1 ?_
  refine lv_iload_n hx hb dX7_addSolo_4 rfl (lv_at hl 1 rfl) ?_
  refine g_runV (As := [.int a1]) (rest := []) (own := RX7) (C := RX4) (T := TX4) (N := 13) 1 hx hb hml hown hts hK hz hP hL hS hlo hl.1 (c_X4_hasSinger l x S a1 σ sz hSt) gX7_addSolo_X4_hasSinger rfl rfl rfl (by decide +kernel) ⟨Nat.le_of_ble_eq_true rfl, Nat.le_of_ble_eq_true rfl⟩ hSt.c0 rfl rfl rfl (Nat.le_of_ble_eq_true rfl) dX7_addSolo_5 ⟨Nat.le_of_ble_eq_true rfl, Nat.le_of_ble_eq_true rfl⟩ (g_ki0 (fun H locs hz hP hL hS => ?_))
  refine g_ifb_eq (tgt := 33) hx hb dX7_addSolo_8 (by decide) (fun c8 => ?_) (fun c8 => ?_)
  · refine lv_iconst (v := (-1)) hx hb dX7_addSolo_33 (by decide) ?_
    refine W.widen (k := 17) (n := 789) (Nat.le_of_ble_eq_true rfl) (Nat.le_of_ble_eq_true rfl) ?_
    exact g_iret (z := sz) hx hb hr hlk hz hP hL hS dX7_addSolo_34 (gxi_i (wP_n (by unfold o_addSolo; rw [if_neg (by first | exact c8 | exact nb c8 | exact Ne.symm c8 | exact fun q => q c8 | exact fun q => q c8.symm | omega)]) ⟨x, t, pa, sn, v, ch, tu, _, _, ⟨hx0, ht0, hpa0, hsn0, hv0, hch0, htu0, hob⟩, ho0, hSt, ⟨_, _, _, _, hTx⟩, hPa, hsn, ⟨_, _, _, _, hVo⟩, ⟨_, _, _, hCh⟩, ⟨_, hTu⟩, hPl, hg, hkp, htn, hP5⟩ (Nat.le_refl _) (by omega) hag))
  · obtain ⟨ha1e, ha1l⟩ := tk_in c8 (by omega)
    refine lv_aload_n hx hb dX7_addSolo_11 rfl (lv_at hl 0 rfl) ?_
    refine g_get (C := RX7) (T := TX7) (N := 7) hx hb hts hown hK hP ho0 nX7_addSolo_X7 rfl 0 (by decide) (by decide +kernel) rfl (v := .ref x) rfl dX7_addSolo_12 ?_
    refine lv_iload_n hx hb dX7_addSolo_15 rfl (lv_at hl 2 rfl) ?_
    refine g_runV (As := [.int a2]) (rest := []) (own := RX7) (C := RX4) (T := TX4) (N := 13) 1 hx hb hml hown hts hK hz hP hL hS hlo hl.1 (c_X4_hasBeat l x S a2 σ sz hSt) gX7_addSolo_X4_hasBeat rfl rfl rfl (by decide +kernel) ⟨Nat.le_of_ble_eq_true rfl, Nat.le_of_ble_eq_true rfl⟩ hSt.c0 rfl rfl rfl (Nat.le_of_ble_eq_true rfl) dX7_addSolo_16 ⟨Nat.le_of_ble_eq_true rfl, Nat.le_of_ble_eq_true rfl⟩ (g_ki0 (fun H locs hz hP hL hS => ?_))
    refine g_ifb_eq (tgt := 33) hx hb dX7_addSolo_19 (by decide) (fun c19 => ?_) (fun c19 => ?_)
    · refine lv_iconst (v := (-1)) hx hb dX7_addSolo_33 (by decide) ?_
      refine W.widen (k := 17) (n := 789) (Nat.le_of_ble_eq_true rfl) (Nat.le_of_ble_eq_true rfl) ?_
      exact g_iret (z := sz) hx hb hr hlk hz hP hL hS dX7_addSolo_34 (gxi_i (wP_n (by unfold o_addSolo; rw [if_pos (by first | exact c8 | exact nb c8 | exact Ne.symm c8 | exact fun q => q c8 | exact fun q => q c8.symm | omega), if_neg (by first | exact c19 | exact nb c19 | exact Ne.symm c19 | exact fun q => q c19 | exact fun q => q c19.symm | omega)]) ⟨x, t, pa, sn, v, ch, tu, _, _, ⟨hx0, ht0, hpa0, hsn0, hv0, hch0, htu0, hob⟩, ho0, hSt, ⟨_, _, _, _, hTx⟩, hPa, hsn, ⟨_, _, _, _, hVo⟩, ⟨_, _, _, hCh⟩, ⟨_, hTu⟩, hPl, hg, hkp, htn, hP5⟩ (Nat.le_refl _) (by omega) hag))
    · obtain ⟨ha2e, ha2l⟩ := tk_in c19 (by omega)
      refine lv_aload_n hx hb dX7_addSolo_22 rfl (lv_at hl 0 rfl) ?_
      refine g_get (C := RX7) (T := TX7) (N := 7) hx hb hts hown hK hP ho0 nX7_addSolo_X7 rfl 0 (by decide) (by decide +kernel) rfl (v := .ref x) rfl dX7_addSolo_23 ?_
      refine lv_iload_n hx hb dX7_addSolo_26 rfl (lv_at hl 3 rfl) ?_
      refine g_runV (As := [.int a3]) (rest := []) (own := RX7) (C := RX4) (T := TX4) (N := 13) 1 hx hb hml hown hts hK hz hP hL hS hlo hl.1 (c_X4_hasBeat l x S a3 σ sz hSt) gX7_addSolo_X4_hasBeat rfl rfl rfl (by decide +kernel) ⟨Nat.le_of_ble_eq_true rfl, Nat.le_of_ble_eq_true rfl⟩ hSt.c0 rfl rfl rfl (Nat.le_of_ble_eq_true rfl) dX7_addSolo_27 ⟨Nat.le_of_ble_eq_true rfl, Nat.le_of_ble_eq_true rfl⟩ (g_ki0 (fun H locs hz hP hL hS => ?_))
      refine g_ifb_ne (tgt := 35) hx hb dX7_addSolo_30 (by decide) (fun c30 => ?_) (fun c30 => ?_)
      · obtain ⟨ha3e, ha3l⟩ := tk_in c30 (by omega)
        refine lv_iload_n hx hb dX7_addSolo_35 rfl (lv_at hl 3 rfl) ?_
        refine g_top (y := (nI (tk a3))) ha3e ?_
        refine lv_iload_n hx hb dX7_addSolo_36 rfl (lv_at hl 2 rfl) ?_
        refine g_top (y := (nI (tk a2))) ha2e ?_
        refine g_icmp_ge (tgt := 43) (a := tk a3) (b := tk a2) hx hb (by omega) (by omega) dX7_addSolo_37 (by decide) (fun c37 => ?_) (fun c37 => ?_)
        · refine lv_aload_n hx hb dX7_addSolo_43 rfl (lv_at hl 0 rfl) ?_
          refine g_get (C := RX7) (T := TX7) (N := 7) hx hb hts hown hK hP ho0 nX7_addSolo_X7 rfl 0 (by decide) (by decide +kernel) rfl (v := .ref x) rfl dX7_addSolo_44 ?_
          refine lv_iload_n hx hb dX7_addSolo_47 rfl (lv_at hl 2 rfl) ?_
          refine g_top (y := (nI (tk a2))) ha2e ?_
          refine lv_iload_n hx hb dX7_addSolo_48 rfl (lv_at hl 3 rfl) ?_
          refine g_top (y := (nI (tk a3))) ha3e ?_
          refine g_runV (As := [.int (nI (tk a2)), .int (nI (tk a3))]) (rest := []) (own := RX7) (C := RX4) (T := TX4) (N := 13) 2 hx hb hml hown hts hK hz hP hL hS hlo hl.1 (c_X4_overlapsSolo l x S (tk a2) (tk a3) σ sz hSt (by omega)) gX7_addSolo_X4_overlapsSolo rfl rfl rfl (by decide +kernel) ⟨Nat.le_of_ble_eq_true rfl, Nat.le_of_ble_eq_true rfl⟩ hSt.c0 rfl rfl rfl (Nat.le_of_ble_eq_true rfl) dX7_addSolo_49 ⟨Nat.le_of_ble_eq_true rfl, Nat.le_of_ble_eq_true rfl⟩ (g_ki0 (fun H locs hz hP hL hS => ?_))
          refine g_ifb_eq (tgt := 58) hx hb dX7_addSolo_52 (by decide) (fun c52 => ?_) (fun c52 => ?_)
          · refine lv_aload_n hx hb dX7_addSolo_58 rfl (lv_at hl 0 rfl) ?_
            refine g_get (C := RX7) (T := TX7) (N := 7) hx hb hts hown hK hP ho0 nX7_addSolo_X7 rfl 0 (by decide) (by decide +kernel) rfl (v := .ref x) rfl dX7_addSolo_59 ?_
            refine g_get (C := RX4) (T := TX4) (N := 13) hx hb hts hown hK hP hSt.c0 nX7_addSolo_X4 rfl 3 (by decide) (by decide +kernel) rfl (v := .int (nI (sK S))) rfl dX7_addSolo_62 ?_
            refine lv_bipush (v := (nI 8)) hx hb dX7_addSolo_65 (by decide) ?_
            refine g_icmp_lt (tgt := 73) (a := sK S) (b := 8) hx hb (by omega) (by omega) dX7_addSolo_67 (by decide) (fun c67 => ?_) (fun c67 => ?_)
            · refine lv_aload_n hx hb dX7_addSolo_73 rfl (lv_at hl 0 rfl) ?_
              refine g_get (C := RX7) (T := TX7) (N := 7) hx hb hts hown hK hP ho0 nX7_addSolo_X7 rfl 2 (by decide) (by decide +kernel) rfl (v := .ref pa) rfl dX7_addSolo_74 ?_
              refine lv_aload_n hx hb dX7_addSolo_77 rfl (lv_at hl 0 rfl) ?_
              refine g_get (C := RX7) (T := TX7) (N := 7) hx hb hts hown hK hP ho0 nX7_addSolo_X7 rfl 0 (by decide) (by decide +kernel) rfl (v := .ref x) rfl dX7_addSolo_78 ?_
              refine g_runV (As := [.ref x]) (rest := []) (own := RX7) (C := RX1) (T := TX1) (N := 2) 1 hx hb hml hown hts hK hz hP hL hS hlo hl.1 (c_X1_record l pa b x P g sg C S σ sz hPa hPl (by omega) hSt (by omega) (by omega) hP5 hg ⟨by omega, by omega, by omega, by omega⟩) gX7_addSolo_X1_record rfl rfl rfl (by decide +kernel) ⟨Nat.le_of_ble_eq_true rfl, Nat.le_of_ble_eq_true rfl⟩ hPa.c0 rfl rfl rfl (Nat.le_of_ble_eq_true rfl) dX7_addSolo_81 ⟨Nat.le_of_ble_eq_true rfl, Nat.le_of_ble_eq_true rfl⟩ (g_kxv (fun τ_1 H locs z_1 hz hp hP hL hS => ?_))
              obtain ⟨g_1, hzl, hzu, hp_1, hl_1, hg_1, hs_1, ha_1⟩ := hp
              have hTx := hTx.fr (τ := τ_1) (fun q h1 h2 => ha_1 q (fun h => Or.elim h (fun h3 => by have h4 := h3.1; have h5 := h3.2; omega) (fun h3 => by have h4 : b ≤ _ := h3; omega)))
              have hVo := hVo.fr (τ := τ_1) (fun q h1 h2 => ha_1 q (fun h => Or.elim h (fun h3 => by have h4 := h3.1; have h5 := h3.2; omega) (fun h3 => by have h4 : b ≤ _ := h3; omega)))
              have hCh := hCh.fr (τ := τ_1) (fun q h1 h2 => ha_1 q (fun h => Or.elim h (fun h3 => by have h4 := h3.1; have h5 := h3.2; omega) (fun h3 => by have h4 : b ≤ _ := h3; omega)))
              have hTu := hTu.fr (τ := τ_1) (fun q h1 h2 => ha_1 q (fun h => Or.elim h (fun h3 => by have h4 := h3.1; have h5 := h3.2; omega) (fun h3 => by have h4 : b ≤ _ := h3; omega)))
              have hPa := hp_1
              have hSt := hs_1
              have hag := hag.tr ha_1 (fun q h => Or.elim h (fun h3 => .inl ⟨by have h4 := h3.1; omega, by have h4 := h3.2; omega⟩) (fun h3 => .inr h3))
              have hPl := hl_1
              have hbz := hPl.1
              have hlo : lo ≤ z_1 := Nat.le_trans hlo hzl
              refine lv_aload_n hx hb dX7_addSolo_84 rfl (lv_at hl 0 rfl) ?_
              refine g_get (C := RX7) (T := TX7) (N := 7) hx hb hts hown hK hP ((ha_1 _ (fun h => Or.elim h (fun h3 => by have h4 := h3.1; have h5 := h3.2; omega) (fun h3 => by have h4 : b ≤ _ := h3; omega))).trans ho0) nX7_addSolo_X7 rfl 0 (by decide) (by decide +kernel) rfl (v := .ref x) rfl dX7_addSolo_85 ?_
              refine lv_iload_n hx hb dX7_addSolo_88 rfl (lv_at hl 1 rfl) ?_
              refine g_top (y := (nI (tk a1))) ha1e ?_
              refine lv_iload_n hx hb dX7_addSolo_89 rfl (lv_at hl 2 rfl) ?_
              refine g_top (y := (nI (tk a2))) ha2e ?_
              refine lv_iload_n hx hb dX7_addSolo_90 rfl (lv_at hl 3 rfl) ?_
              refine g_top (y := (nI (tk a3))) ha3e ?_
              refine g_runV (As := [.int (nI (tk a1)), .int (nI (tk a2)), .int (nI (tk a3))]) (rest := []) (own := RX7) (C := RX4) (T := TX4) (N := 13) 3 hx hb hml hown hts hK hz hP hL hS hlo hl.1 (c_X4_insertSolo l x S (tk a1) (tk a2) (tk a3) τ_1 z_1 hSt (by omega)) gX7_addSolo_X4_insertSolo rfl rfl rfl (by decide +kernel) ⟨Nat.le_of_ble_eq_true rfl, Nat.le_of_ble_eq_true rfl⟩ hSt.c0 rfl rfl rfl (Nat.le_of_ble_eq_true rfl) dX7_addSolo_91 ⟨Nat.le_of_ble_eq_true rfl, Nat.le_of_ble_eq_true rfl⟩ (g_kxi0 (fun r_4 τ_2 H locs z1 hz hp hP hL hS => ?_))
              obtain ⟨h_3r, hz1, h_3n, h_3a⟩ := hp
              have hz := hz.trans hz1
              have hTx := hTx.fr (τ := τ_2) (fun q h1 h2 => h_3a q (fun h => by have h3 := h.1; have h4 := h.2; omega))
              have hPa := hPa.fr (τ := τ_2) (fun q h1 h2 => h_3a q (fun h => by have h3 := h.1; have h4 := h.2; omega))
              have hVo := hVo.fr (τ := τ_2) (fun q h1 h2 => h_3a q (fun h => by have h3 := h.1; have h4 := h.2; omega))
              have hCh := hCh.fr (τ := τ_2) (fun q h1 h2 => h_3a q (fun h => by have h3 := h.1; have h4 := h.2; omega))
              have hTu := hTu.fr (τ := τ_2) (fun q h1 h2 => h_3a q (fun h => by have h3 := h.1; have h4 := h.2; omega))
              have hPl := hPl.fr (τ := τ_2) (fun q h1 h2 => h_3a q (fun h => by have h3 := h.1; have h4 := h.2; omega))
              have hSt := h_3n
              have hag := hag.tr h_3a (fun q h => .inl ⟨by have h3 := h.1; omega, by have h3 := h.2; omega⟩)
              subst h_3r
              refine W.widen (k := 17) (n := 789) (Nat.le_of_ble_eq_true rfl) (Nat.le_of_ble_eq_true rfl) ?_
              exact g_iret (z := z_1) hx hb hr hlk hz hP hL hS dX7_addSolo_94 (gxi_i (wP_s (by unfold o_addSolo; rw [if_pos (by first | exact c8 | exact nb c8 | exact Ne.symm c8 | exact fun q => q c8 | exact fun q => q c8.symm | omega), if_pos (by first | exact c19 | exact nb c19 | exact Ne.symm c19 | exact fun q => q c19 | exact fun q => q c19.symm | omega), if_pos (by first | exact c30 | exact nb c30 | exact Ne.symm c30 | exact fun q => q c30 | exact fun q => q c30.symm | omega), if_pos (by first | exact c37 | exact nb c37 | exact Ne.symm c37 | exact fun q => q c37 | exact fun q => q c37.symm | omega), if_neg (by first | exact c52 | exact nb c52 | exact Ne.symm c52 | exact fun q => q c52 | exact fun q => q c52.symm | omega), if_pos (by first | exact c67 | exact nb c67 | exact Ne.symm c67 | exact fun q => q c67 | exact fun q => q c67.symm | omega)]) ⟨x, t, pa, sn, v, ch, tu, _, _, ⟨hx0, ht0, hpa0, hsn0, hv0, hch0, htu0, hob⟩, ((h_3a _ (fun h => by have h3 := h.1; have h4 := h.2; omega)).trans ((ha_1 _ (fun h => Or.elim h (fun h3 => by have h4 := h3.1; have h5 := h3.2; omega) (fun h3 => by have h4 : b ≤ _ := h3; omega))).trans ho0)), hSt, ⟨_, _, _, _, hTx⟩, hPa, ((h_3a _ (fun h => by have h3 := h.1; have h4 := h.2; omega)).trans ((ha_1 _ (fun h => Or.elim h (fun h3 => by have h4 := h3.1; have h5 := h3.2; omega) (fun h3 => by have h4 : b ≤ _ := h3; omega))).trans hsn)), ⟨_, _, _, _, hVo⟩, ⟨_, _, _, hCh⟩, ⟨_, hTu⟩, hPl, hg_1, hkp, htn, recP_le _⟩ hzl hzu hag))
            · refine lv_bipush (v := (-3)) hx hb dX7_addSolo_70 (by decide) ?_
              refine W.widen (k := 17) (n := 789) (Nat.le_of_ble_eq_true rfl) (Nat.le_of_ble_eq_true rfl) ?_
              exact g_iret (z := sz) hx hb hr hlk hz hP hL hS dX7_addSolo_72 (gxi_i (wP_n (by unfold o_addSolo; rw [if_pos (by first | exact c8 | exact nb c8 | exact Ne.symm c8 | exact fun q => q c8 | exact fun q => q c8.symm | omega), if_pos (by first | exact c19 | exact nb c19 | exact Ne.symm c19 | exact fun q => q c19 | exact fun q => q c19.symm | omega), if_pos (by first | exact c30 | exact nb c30 | exact Ne.symm c30 | exact fun q => q c30 | exact fun q => q c30.symm | omega), if_pos (by first | exact c37 | exact nb c37 | exact Ne.symm c37 | exact fun q => q c37 | exact fun q => q c37.symm | omega), if_neg (by first | exact c52 | exact nb c52 | exact Ne.symm c52 | exact fun q => q c52 | exact fun q => q c52.symm | omega), if_neg (by first | exact c67 | exact nb c67 | exact Ne.symm c67 | exact fun q => q c67 | exact fun q => q c67.symm | omega)]) ⟨x, t, pa, sn, v, ch, tu, _, _, ⟨hx0, ht0, hpa0, hsn0, hv0, hch0, htu0, hob⟩, ho0, hSt, ⟨_, _, _, _, hTx⟩, hPa, hsn, ⟨_, _, _, _, hVo⟩, ⟨_, _, _, hCh⟩, ⟨_, hTu⟩, hPl, hg, hkp, htn, hP5⟩ (Nat.le_refl _) (by omega) hag))
          · refine lv_bipush (v := (-4)) hx hb dX7_addSolo_55 (by decide) ?_
            refine W.widen (k := 17) (n := 789) (Nat.le_of_ble_eq_true rfl) (Nat.le_of_ble_eq_true rfl) ?_
            exact g_iret (z := sz) hx hb hr hlk hz hP hL hS dX7_addSolo_57 (gxi_i (wP_n (by unfold o_addSolo; rw [if_pos (by first | exact c8 | exact nb c8 | exact Ne.symm c8 | exact fun q => q c8 | exact fun q => q c8.symm | omega), if_pos (by first | exact c19 | exact nb c19 | exact Ne.symm c19 | exact fun q => q c19 | exact fun q => q c19.symm | omega), if_pos (by first | exact c30 | exact nb c30 | exact Ne.symm c30 | exact fun q => q c30 | exact fun q => q c30.symm | omega), if_pos (by first | exact c37 | exact nb c37 | exact Ne.symm c37 | exact fun q => q c37 | exact fun q => q c37.symm | omega), if_pos (by first | exact c52 | exact nb c52 | exact Ne.symm c52 | exact fun q => q c52 | exact fun q => q c52.symm | omega)]) ⟨x, t, pa, sn, v, ch, tu, _, _, ⟨hx0, ht0, hpa0, hsn0, hv0, hch0, htu0, hob⟩, ho0, hSt, ⟨_, _, _, _, hTx⟩, hPa, hsn, ⟨_, _, _, _, hVo⟩, ⟨_, _, _, hCh⟩, ⟨_, hTu⟩, hPl, hg, hkp, htn, hP5⟩ (Nat.le_refl _) (by omega) hag))
        · refine lv_bipush (v := (-2)) hx hb dX7_addSolo_40 (by decide) ?_
          refine W.widen (k := 17) (n := 789) (Nat.le_of_ble_eq_true rfl) (Nat.le_of_ble_eq_true rfl) ?_
          exact g_iret (z := sz) hx hb hr hlk hz hP hL hS dX7_addSolo_42 (gxi_i (wP_n (by unfold o_addSolo; rw [if_pos (by first | exact c8 | exact nb c8 | exact Ne.symm c8 | exact fun q => q c8 | exact fun q => q c8.symm | omega), if_pos (by first | exact c19 | exact nb c19 | exact Ne.symm c19 | exact fun q => q c19 | exact fun q => q c19.symm | omega), if_pos (by first | exact c30 | exact nb c30 | exact Ne.symm c30 | exact fun q => q c30 | exact fun q => q c30.symm | omega), if_neg (by first | exact c37 | exact nb c37 | exact Ne.symm c37 | exact fun q => q c37 | exact fun q => q c37.symm | omega)]) ⟨x, t, pa, sn, v, ch, tu, _, _, ⟨hx0, ht0, hpa0, hsn0, hv0, hch0, htu0, hob⟩, ho0, hSt, ⟨_, _, _, _, hTx⟩, hPa, hsn, ⟨_, _, _, _, hVo⟩, ⟨_, _, _, hCh⟩, ⟨_, hTu⟩, hPl, hg, hkp, htn, hP5⟩ (Nat.le_refl _) (by omega) hag))
      · refine lv_iconst (v := (-1)) hx hb dX7_addSolo_33 (by decide) ?_
        refine W.widen (k := 17) (n := 789) (Nat.le_of_ble_eq_true rfl) (Nat.le_of_ble_eq_true rfl) ?_
        exact g_iret (z := sz) hx hb hr hlk hz hP hL hS dX7_addSolo_34 (gxi_i (wP_n (by unfold o_addSolo; rw [if_pos (by first | exact c8 | exact nb c8 | exact Ne.symm c8 | exact fun q => q c8 | exact fun q => q c8.symm | omega), if_pos (by first | exact c19 | exact nb c19 | exact Ne.symm c19 | exact fun q => q c19 | exact fun q => q c19.symm | omega), if_neg (by first | exact c30 | exact nb c30 | exact Ne.symm c30 | exact fun q => q c30 | exact fun q => q c30.symm | omega)]) ⟨x, t, pa, sn, v, ch, tu, _, _, ⟨hx0, ht0, hpa0, hsn0, hv0, hch0, htu0, hob⟩, ho0, hSt, ⟨_, _, _, _, hTx⟩, hPa, hsn, ⟨_, _, _, _, hVo⟩, ⟨_, _, _, hCh⟩, ⟨_, hTu⟩, hPl, hg, hkp, htn, hP5⟩ (Nat.le_refl _) (by omega) hag))

theorem nX7_removeSolo_X4 : ∀ w ∈ wsX40, w ∈ wsX7_removeSolo := by decide +kernel
theorem nX7_removeSolo_X7 : ∀ w ∈ wsX70, w ∈ wsX7_removeSolo := by decide +kernel
set_option maxHeartbeats 4000000 in
set_option maxRecDepth 100000 in
theorem c_X7_removeSolo (l : Launch) (o b : Nat) (S : sS) (tf : Nat → Int32) (tn P : Nat) (C : Nat → sS) (kp : Nat → Bool) (a1 : Int32) (σ : gS) (sz : Nat) (hW : Wo σ o b S tf tn P C kp sz) (hok : okS S) : gM l yX7_removeSolo wsX7_removeSolo ({ frames := 4, cells := 17, slots := 789, locals := 86 } : Room) 17 789 [.ref o, .int a1] σ sz (gxi (fun r τ n => wP o b σ S tf tn P C kp sz (o_removeSolo S a1) r τ n)) := by
  refine gM_of (cc := cX7_removeSolo) (maxL := 2) (ret := (some .int)) (by decide) rfl (Nat.le_of_ble_eq_true rfl) ?_
  intro D ka lo hL hlo p e s m below meth c hx hb hr hts hown hml hlk hnm hK H locs ls hz hP hS hl
  have hl : lv_has ls 2 [(0, .ref o), (1, .int a1)] := hl
  have hown : s.vm.findClass RX7 = some m.cls := hown
  obtain ⟨x, t, pa, sn, v, ch, tu, g, sg, ⟨hx0, ht0, hpa0, hsn0, hv0, hch0, htu0, hob⟩, ho0, hSt, ⟨ta, tso, tld, tti, hTx⟩, hPa, hsn, ⟨vd, vf, vb, vw, hVo⟩, ⟨ca, cb, cd, hCh⟩, ⟨lf, hTu⟩, hPl, hg, hkp, htn, hP5⟩ := hW
  obtain ⟨hB, hN, hKs, hRs⟩ := hok
  have hbz := hPl.1
  have hag : gAs (Zc o b) σ σ := gAs.rf
  refine lv_aload_n hx hb dX7_removeSolo_0 rfl (lv_at hl 0 rfl) ?_
  refine g_get (C := RX7) (T := TX7) (N := 7) hx hb hts hown hK hP ho0 nX7_removeSolo_X7 rfl 0 (by decide) (by decide +kernel) rfl (v := .ref x) rfl dX7_removeSolo_1 ?_
  refine lv_iload_n hx hb dX7_removeSolo_4 rfl (lv_at hl 1 rfl) ?_
  refine g_runV (As := [.int a1]) (rest := []) (own := RX7) (C := RX4) (T := TX4) (N := 13) 1 hx hb hml hown hts hK hz hP hL hS hlo hl.1 (c_X4_hasSolo l x S a1 σ sz hSt) gX7_removeSolo_X4_hasSolo rfl rfl rfl (by decide +kernel) ⟨Nat.le_of_ble_eq_true rfl, Nat.le_of_ble_eq_true rfl⟩ hSt.c0 rfl rfl rfl (Nat.le_of_ble_eq_true rfl) dX7_removeSolo_5 ⟨Nat.le_of_ble_eq_true rfl, Nat.le_of_ble_eq_true rfl⟩ (g_ki0 (fun H locs hz hP hL hS => ?_))
  refine g_ifb_ne (tgt := 13) hx hb dX7_removeSolo_8 (by decide) (fun c8 => ?_) (fun c8 => ?_)
  · obtain ⟨ha1e, ha1l⟩ := tk_in c8 (by omega)
    refine lv_aload_n hx hb dX7_removeSolo_13 rfl (lv_at hl 0 rfl) ?_
    refine g_get (C := RX7) (T := TX7) (N := 7) hx hb hts hown hK hP ho0 nX7_removeSolo_X7 rfl 2 (by decide) (by decide +kernel) rfl (v := .ref pa) rfl dX7_removeSolo_14 ?_
    refine lv_aload_n hx hb dX7_removeSolo_17 rfl (lv_at hl 0 rfl) ?_
    refine g_get (C := RX7) (T := TX7) (N := 7) hx hb hts hown hK hP ho0 nX7_removeSolo_X7 rfl 0 (by decide) (by decide +kernel) rfl (v := .ref x) rfl dX7_removeSolo_18 ?_
    refine g_runV (As := [.ref x]) (rest := []) (own := RX7) (C := RX1) (T := TX1) (N := 2) 1 hx hb hml hown hts hK hz hP hL hS hlo hl.1 (c_X1_record l pa b x P g sg C S σ sz hPa hPl (by omega) hSt (by omega) (by omega) hP5 hg ⟨by omega, by omega, by omega, by omega⟩) gX7_removeSolo_X1_record rfl rfl rfl (by decide +kernel) ⟨Nat.le_of_ble_eq_true rfl, Nat.le_of_ble_eq_true rfl⟩ hPa.c0 rfl rfl rfl (Nat.le_of_ble_eq_true rfl) dX7_removeSolo_21 ⟨Nat.le_of_ble_eq_true rfl, Nat.le_of_ble_eq_true rfl⟩ (g_kxv (fun τ_1 H locs z_1 hz hp hP hL hS => ?_))
    obtain ⟨g_1, hzl, hzu, hp_1, hl_1, hg_1, hs_1, ha_1⟩ := hp
    have hTx := hTx.fr (τ := τ_1) (fun q h1 h2 => ha_1 q (fun h => Or.elim h (fun h3 => by have h4 := h3.1; have h5 := h3.2; omega) (fun h3 => by have h4 : b ≤ _ := h3; omega)))
    have hVo := hVo.fr (τ := τ_1) (fun q h1 h2 => ha_1 q (fun h => Or.elim h (fun h3 => by have h4 := h3.1; have h5 := h3.2; omega) (fun h3 => by have h4 : b ≤ _ := h3; omega)))
    have hCh := hCh.fr (τ := τ_1) (fun q h1 h2 => ha_1 q (fun h => Or.elim h (fun h3 => by have h4 := h3.1; have h5 := h3.2; omega) (fun h3 => by have h4 : b ≤ _ := h3; omega)))
    have hTu := hTu.fr (τ := τ_1) (fun q h1 h2 => ha_1 q (fun h => Or.elim h (fun h3 => by have h4 := h3.1; have h5 := h3.2; omega) (fun h3 => by have h4 : b ≤ _ := h3; omega)))
    have hPa := hp_1
    have hSt := hs_1
    have hag := hag.tr ha_1 (fun q h => Or.elim h (fun h3 => .inl ⟨by have h4 := h3.1; omega, by have h4 := h3.2; omega⟩) (fun h3 => .inr h3))
    have hPl := hl_1
    have hbz := hPl.1
    have hlo : lo ≤ z_1 := Nat.le_trans hlo hzl
    refine lv_aload_n hx hb dX7_removeSolo_24 rfl (lv_at hl 0 rfl) ?_
    refine g_get (C := RX7) (T := TX7) (N := 7) hx hb hts hown hK hP ((ha_1 _ (fun h => Or.elim h (fun h3 => by have h4 := h3.1; have h5 := h3.2; omega) (fun h3 => by have h4 : b ≤ _ := h3; omega))).trans ho0) nX7_removeSolo_X7 rfl 0 (by decide) (by decide +kernel) rfl (v := .ref x) rfl dX7_removeSolo_25 ?_
    refine lv_iload_n hx hb dX7_removeSolo_28 rfl (lv_at hl 1 rfl) ?_
    refine g_top (y := (nI (tk a1))) ha1e ?_
    refine g_runV (As := [.int (nI (tk a1))]) (rest := []) (own := RX7) (C := RX4) (T := TX4) (N := 13) 1 hx hb hml hown hts hK hz hP hL hS hlo hl.1 (c_X4_dropSolo l x S (tk a1) τ_1 z_1 hSt (by omega) (by omega)) gX7_removeSolo_X4_dropSolo rfl rfl rfl (by decide +kernel) ⟨Nat.le_of_ble_eq_true rfl, Nat.le_of_ble_eq_true rfl⟩ hSt.c0 rfl rfl rfl (Nat.le_of_ble_eq_true rfl) dX7_removeSolo_29 ⟨Nat.le_of_ble_eq_true rfl, Nat.le_of_ble_eq_true rfl⟩ (g_kxv0 (fun τ_2 H locs z1 hz hp hP hL hS => ?_))
    obtain ⟨hz1, h_3n, h_3a⟩ := hp
    have hz := hz.trans hz1
    have hTx := hTx.fr (τ := τ_2) (fun q h1 h2 => h_3a q (fun h => by have h3 := h.1; have h4 := h.2; omega))
    have hPa := hPa.fr (τ := τ_2) (fun q h1 h2 => h_3a q (fun h => by have h3 := h.1; have h4 := h.2; omega))
    have hVo := hVo.fr (τ := τ_2) (fun q h1 h2 => h_3a q (fun h => by have h3 := h.1; have h4 := h.2; omega))
    have hCh := hCh.fr (τ := τ_2) (fun q h1 h2 => h_3a q (fun h => by have h3 := h.1; have h4 := h.2; omega))
    have hTu := hTu.fr (τ := τ_2) (fun q h1 h2 => h_3a q (fun h => by have h3 := h.1; have h4 := h.2; omega))
    have hPl := hPl.fr (τ := τ_2) (fun q h1 h2 => h_3a q (fun h => by have h3 := h.1; have h4 := h.2; omega))
    have hSt := h_3n
    have hag := hag.tr h_3a (fun q h => .inl ⟨by have h3 := h.1; omega, by have h3 := h.2; omega⟩)
    refine lv_aload_n hx hb dX7_removeSolo_32 rfl (lv_at hl 0 rfl) ?_
    refine g_get (C := RX7) (T := TX7) (N := 7) hx hb hts hown hK hP ((h_3a _ (fun h => by have h3 := h.1; have h4 := h.2; omega)).trans ((ha_1 _ (fun h => Or.elim h (fun h3 => by have h4 := h3.1; have h5 := h3.2; omega) (fun h3 => by have h4 : b ≤ _ := h3; omega))).trans ho0)) nX7_removeSolo_X7 rfl 0 (by decide) (by decide +kernel) rfl (v := .ref x) rfl dX7_removeSolo_33 ?_
    refine g_get (C := RX4) (T := TX4) (N := 13) hx hb hts hown hK hP hSt.c0 nX7_removeSolo_X4 rfl 3 (by decide) (by decide +kernel) rfl (v := .int (nI (sK (drpS S (tk a1))))) rfl dX7_removeSolo_36 ?_
    refine W.widen (k := 17) (n := 789) (Nat.le_of_ble_eq_true rfl) (Nat.le_of_ble_eq_true rfl) ?_
    exact g_iret (z := z_1) hx hb hr hlk hz hP hL hS dX7_removeSolo_39 (gxi_i (wP_s (by unfold o_removeSolo; rw [if_pos (by first | exact c8 | exact nb c8 | exact Ne.symm c8 | exact fun q => q c8 | exact fun q => q c8.symm | omega)]) ⟨x, t, pa, sn, v, ch, tu, _, _, ⟨hx0, ht0, hpa0, hsn0, hv0, hch0, htu0, hob⟩, ((h_3a _ (fun h => by have h3 := h.1; have h4 := h.2; omega)).trans ((ha_1 _ (fun h => Or.elim h (fun h3 => by have h4 := h3.1; have h5 := h3.2; omega) (fun h3 => by have h4 : b ≤ _ := h3; omega))).trans ho0)), hSt, ⟨_, _, _, _, hTx⟩, hPa, ((h_3a _ (fun h => by have h3 := h.1; have h4 := h.2; omega)).trans ((ha_1 _ (fun h => Or.elim h (fun h3 => by have h4 := h3.1; have h5 := h3.2; omega) (fun h3 => by have h4 : b ≤ _ := h3; omega))).trans hsn)), ⟨_, _, _, _, hVo⟩, ⟨_, _, _, hCh⟩, ⟨_, hTu⟩, hPl, hg_1, hkp, htn, recP_le _⟩ hzl hzu hag))
  · refine lv_iconst (v := (-1)) hx hb dX7_removeSolo_11 (by decide) ?_
    refine W.widen (k := 17) (n := 789) (Nat.le_of_ble_eq_true rfl) (Nat.le_of_ble_eq_true rfl) ?_
    exact g_iret (z := sz) hx hb hr hlk hz hP hL hS dX7_removeSolo_12 (gxi_i (wP_n (by unfold o_removeSolo; rw [if_neg (by first | exact c8 | exact nb c8 | exact Ne.symm c8 | exact fun q => q c8 | exact fun q => q c8.symm | omega)]) ⟨x, t, pa, sn, v, ch, tu, _, _, ⟨hx0, ht0, hpa0, hsn0, hv0, hch0, htu0, hob⟩, ho0, hSt, ⟨_, _, _, _, hTx⟩, hPa, hsn, ⟨_, _, _, _, hVo⟩, ⟨_, _, _, hCh⟩, ⟨_, hTu⟩, hPl, hg, hkp, htn, hP5⟩ (Nat.le_refl _) (by omega) hag))

theorem nX7_mark_X4 : ∀ w ∈ wsX40, w ∈ wsX7_mark := by decide +kernel
theorem nX7_mark_X7 : ∀ w ∈ wsX70, w ∈ wsX7_mark := by decide +kernel
set_option maxHeartbeats 4000000 in
set_option maxRecDepth 100000 in
theorem c_X7_mark (l : Launch) (o b : Nat) (S : sS) (tf : Nat → Int32) (tn P : Nat) (C : Nat → sS) (kp : Nat → Bool) (a1 a2 : Int32) (a3 : Bool) (σ : gS) (sz : Nat) (hW : Wo σ o b S tf tn P C kp sz) (hok : okS S) : gM l yX7_mark wsX7_mark ({ frames := 4, cells := 17, slots := 789, locals := 86 } : Room) 17 789 [.ref o, .int a1, .int a2, .int (bI a3)] σ sz (gxi (fun r τ n => wP o b σ S tf tn P C kp sz (o_mark S a1 a2 a3) r τ n)) := by
  refine gM_of (cc := cX7_mark) (maxL := 4) (ret := (some .int)) (by decide) rfl (Nat.le_of_ble_eq_true rfl) ?_
  intro D ka lo hL hlo p e s m below meth c hx hb hr hts hown hml hlk hnm hK H locs ls hz hP hS hl
  have hl : lv_has ls 4 [(0, .ref o), (1, .int a1), (2, .int a2), (3, .int (bI a3))] := hl
  have hown : s.vm.findClass RX7 = some m.cls := hown
  obtain ⟨x, t, pa, sn, v, ch, tu, g, sg, ⟨hx0, ht0, hpa0, hsn0, hv0, hch0, htu0, hob⟩, ho0, hSt, ⟨ta, tso, tld, tti, hTx⟩, hPa, hsn, ⟨vd, vf, vb, vw, hVo⟩, ⟨ca, cb, cd, hCh⟩, ⟨lf, hTu⟩, hPl, hg, hkp, htn, hP5⟩ := hW
  obtain ⟨hB, hN, hKs, hRs⟩ := hok
  have hbz := hPl.1
  have hag : gAs (Zc o b) σ σ := gAs.rf
  refine lv_aload_n hx hb dX7_mark_0 rfl (lv_at hl 0 rfl) ?_
  refine g_get (C := RX7) (T := TX7) (N := 7) hx hb hts hown hK hP ho0 nX7_mark_X7 rfl 0 (by decide) (by decide +kernel) rfl (v := .ref x) rfl dX7_mark_1 ?_
  refine lv_iload_n hx hb dX7_mark_4 rfl (lv_at hl 1 rfl) ?_
  refine g_runV (As := [.int a1]) (rest := []) (own := RX7) (C := RX4) (T := TX4) (N := 13) 1 hx hb hml hown hts hK hz hP hL hS hlo hl.1 (c_X4_hasSinger l x S a1 σ sz hSt) gX7_mark_X4_hasSinger rfl rfl rfl (by decide +kernel) ⟨Nat.le_of_ble_eq_true rfl, Nat.le_of_ble_eq_true rfl⟩ hSt.c0 rfl rfl rfl (Nat.le_of_ble_eq_true rfl) dX7_mark_5 ⟨Nat.le_of_ble_eq_true rfl, Nat.le_of_ble_eq_true rfl⟩ (g_ki0 (fun H locs hz hP hL hS => ?_))
  refine g_ifb_eq (tgt := 22) hx hb dX7_mark_8 (by decide) (fun c8 => ?_) (fun c8 => ?_)
  · refine lv_iconst (v := (-1)) hx hb dX7_mark_22 (by decide) ?_
    refine W.widen (k := 17) (n := 789) (Nat.le_of_ble_eq_true rfl) (Nat.le_of_ble_eq_true rfl) ?_
    exact g_iret (z := sz) hx hb hr hlk hz hP hL hS dX7_mark_23 (gxi_i (wP_n (by unfold o_mark; rw [if_neg (by first | exact c8 | exact nb c8 | exact Ne.symm c8 | exact fun q => q c8 | exact fun q => q c8.symm | omega)]) ⟨x, t, pa, sn, v, ch, tu, _, _, ⟨hx0, ht0, hpa0, hsn0, hv0, hch0, htu0, hob⟩, ho0, hSt, ⟨_, _, _, _, hTx⟩, hPa, hsn, ⟨_, _, _, _, hVo⟩, ⟨_, _, _, hCh⟩, ⟨_, hTu⟩, hPl, hg, hkp, htn, hP5⟩ (Nat.le_refl _) (by omega) hag))
  · obtain ⟨ha1e, ha1l⟩ := tk_in c8 (by omega)
    refine lv_aload_n hx hb dX7_mark_11 rfl (lv_at hl 0 rfl) ?_
    refine g_get (C := RX7) (T := TX7) (N := 7) hx hb hts hown hK hP ho0 nX7_mark_X7 rfl 0 (by decide) (by decide +kernel) rfl (v := .ref x) rfl dX7_mark_12 ?_
    refine lv_iload_n hx hb dX7_mark_15 rfl (lv_at hl 2 rfl) ?_
    refine g_runV (As := [.int a2]) (rest := []) (own := RX7) (C := RX4) (T := TX4) (N := 13) 1 hx hb hml hown hts hK hz hP hL hS hlo hl.1 (c_X4_hasBeat l x S a2 σ sz hSt) gX7_mark_X4_hasBeat rfl rfl rfl (by decide +kernel) ⟨Nat.le_of_ble_eq_true rfl, Nat.le_of_ble_eq_true rfl⟩ hSt.c0 rfl rfl rfl (Nat.le_of_ble_eq_true rfl) dX7_mark_16 ⟨Nat.le_of_ble_eq_true rfl, Nat.le_of_ble_eq_true rfl⟩ (g_ki0 (fun H locs hz hP hL hS => ?_))
    refine g_ifb_ne (tgt := 24) hx hb dX7_mark_19 (by decide) (fun c19 => ?_) (fun c19 => ?_)
    · obtain ⟨ha2e, ha2l⟩ := tk_in c19 (by omega)
      refine lv_aload_n hx hb dX7_mark_24 rfl (lv_at hl 0 rfl) ?_
      refine g_get (C := RX7) (T := TX7) (N := 7) hx hb hts hown hK hP ho0 nX7_mark_X7 rfl 0 (by decide) (by decide +kernel) rfl (v := .ref x) rfl dX7_mark_25 ?_
      refine lv_iload_n hx hb dX7_mark_28 rfl (lv_at hl 1 rfl) ?_
      refine g_top (y := (nI (tk a1))) ha1e ?_
      refine lv_iload_n hx hb dX7_mark_29 rfl (lv_at hl 2 rfl) ?_
      refine g_top (y := (nI (tk a2))) ha2e ?_
      refine g_runV (As := [.int (nI (tk a1)), .int (nI (tk a2))]) (rest := []) (own := RX7) (C := RX4) (T := TX4) (N := 13) 2 hx hb hml hown hts hK hz hP hL hS hlo hl.1 (c_X4_isMarked l x S (tk a1) (tk a2) σ sz hSt (by omega)) gX7_mark_X4_isMarked rfl rfl rfl (by decide +kernel) ⟨Nat.le_of_ble_eq_true rfl, Nat.le_of_ble_eq_true rfl⟩ hSt.c0 rfl rfl rfl (Nat.le_of_ble_eq_true rfl) dX7_mark_30 ⟨Nat.le_of_ble_eq_true rfl, Nat.le_of_ble_eq_true rfl⟩ (g_ki0 (fun H locs hz hP hL hS => ?_))
      refine lv_iload_n hx hb dX7_mark_33 rfl (lv_at hl 3 rfl) ?_
      refine g_icmpb_ne (tgt := 40) hx hb dX7_mark_34 (by decide) (fun c34 => ?_) (fun c34 => ?_)
      · refine lv_aload_n hx hb dX7_mark_40 rfl (lv_at hl 0 rfl) ?_
        refine g_get (C := RX7) (T := TX7) (N := 7) hx hb hts hown hK hP ho0 nX7_mark_X7 rfl 2 (by decide) (by decide +kernel) rfl (v := .ref pa) rfl dX7_mark_41 ?_
        refine lv_aload_n hx hb dX7_mark_44 rfl (lv_at hl 0 rfl) ?_
        refine g_get (C := RX7) (T := TX7) (N := 7) hx hb hts hown hK hP ho0 nX7_mark_X7 rfl 0 (by decide) (by decide +kernel) rfl (v := .ref x) rfl dX7_mark_45 ?_
        refine g_runV (As := [.ref x]) (rest := []) (own := RX7) (C := RX1) (T := TX1) (N := 2) 1 hx hb hml hown hts hK hz hP hL hS hlo hl.1 (c_X1_record l pa b x P g sg C S σ sz hPa hPl (by omega) hSt (by omega) (by omega) hP5 hg ⟨by omega, by omega, by omega, by omega⟩) gX7_mark_X1_record rfl rfl rfl (by decide +kernel) ⟨Nat.le_of_ble_eq_true rfl, Nat.le_of_ble_eq_true rfl⟩ hPa.c0 rfl rfl rfl (Nat.le_of_ble_eq_true rfl) dX7_mark_48 ⟨Nat.le_of_ble_eq_true rfl, Nat.le_of_ble_eq_true rfl⟩ (g_kxv (fun τ_1 H locs z_1 hz hp hP hL hS => ?_))
        obtain ⟨g_1, hzl, hzu, hp_1, hl_1, hg_1, hs_1, ha_1⟩ := hp
        have hTx := hTx.fr (τ := τ_1) (fun q h1 h2 => ha_1 q (fun h => Or.elim h (fun h3 => by have h4 := h3.1; have h5 := h3.2; omega) (fun h3 => by have h4 : b ≤ _ := h3; omega)))
        have hVo := hVo.fr (τ := τ_1) (fun q h1 h2 => ha_1 q (fun h => Or.elim h (fun h3 => by have h4 := h3.1; have h5 := h3.2; omega) (fun h3 => by have h4 : b ≤ _ := h3; omega)))
        have hCh := hCh.fr (τ := τ_1) (fun q h1 h2 => ha_1 q (fun h => Or.elim h (fun h3 => by have h4 := h3.1; have h5 := h3.2; omega) (fun h3 => by have h4 : b ≤ _ := h3; omega)))
        have hTu := hTu.fr (τ := τ_1) (fun q h1 h2 => ha_1 q (fun h => Or.elim h (fun h3 => by have h4 := h3.1; have h5 := h3.2; omega) (fun h3 => by have h4 : b ≤ _ := h3; omega)))
        have hPa := hp_1
        have hSt := hs_1
        have hag := hag.tr ha_1 (fun q h => Or.elim h (fun h3 => .inl ⟨by have h4 := h3.1; omega, by have h4 := h3.2; omega⟩) (fun h3 => .inr h3))
        have hPl := hl_1
        have hbz := hPl.1
        have hlo : lo ≤ z_1 := Nat.le_trans hlo hzl
        refine lv_aload_n hx hb dX7_mark_51 rfl (lv_at hl 0 rfl) ?_
        refine g_get (C := RX7) (T := TX7) (N := 7) hx hb hts hown hK hP ((ha_1 _ (fun h => Or.elim h (fun h3 => by have h4 := h3.1; have h5 := h3.2; omega) (fun h3 => by have h4 : b ≤ _ := h3; omega))).trans ho0) nX7_mark_X7 rfl 0 (by decide) (by decide +kernel) rfl (v := .ref x) rfl dX7_mark_52 ?_
        refine g_get (C := RX4) (T := TX4) (N := 13) hx hb hts hown hK hP hSt.c0 nX7_mark_X4 rfl 7 (by decide) (by decide +kernel) rfl (v := .ref (x + 5)) rfl dX7_mark_55 ?_
        refine lv_iload_n hx hb dX7_mark_58 rfl (lv_at hl 2 rfl) ?_
        refine g_top (y := (nI (tk a2))) ha2e ?_
        refine lv_aload_n hx hb dX7_mark_59 rfl (lv_at hl 0 rfl) ?_
        refine g_get (C := RX7) (T := TX7) (N := 7) hx hb hts hown hK hP ((ha_1 _ (fun h => Or.elim h (fun h3 => by have h4 := h3.1; have h5 := h3.2; omega) (fun h3 => by have h4 : b ≤ _ := h3; omega))).trans ho0) nX7_mark_X7 rfl 0 (by decide) (by decide +kernel) rfl (v := .ref x) rfl dX7_mark_60 ?_
        refine g_get (C := RX4) (T := TX4) (N := 13) hx hb hts hown hK hP hSt.c0 nX7_mark_X4 rfl 7 (by decide) (by decide +kernel) rfl (v := .ref (x + 5)) rfl dX7_mark_63 ?_
        refine lv_iload_n hx hb dX7_mark_66 rfl (lv_at hl 2 rfl) ?_
        refine g_top (y := (nI (tk a2))) ha2e ?_
        refine g_runV (As := [.int (nI (tk a2))]) (rest := [.int (nI (tk a2)), .ref (x + 5)]) (own := RX7) (C := RX2) (T := TX2) (N := 1) 1 hx hb hml hown hts hK hz hP hL hS hlo hl.1 (c_X2_at l (x + 5) 96 (tk a2) (S 2) τ_1 z_1 ⟨hSt.c5, hSt.c6⟩ (by omega) (by omega)) gX7_mark_X2_at rfl rfl rfl (by decide +kernel) ⟨Nat.le_of_ble_eq_true rfl, Nat.le_of_ble_eq_true rfl⟩ hSt.c5 rfl rfl rfl (Nat.le_of_ble_eq_true rfl) dX7_mark_67 ⟨Nat.le_of_ble_eq_true rfl, Nat.le_of_ble_eq_true rfl⟩ (g_ki0 (fun H locs hz hP hL hS => ?_))
        refine lv_iload_n hx hb dX7_mark_70 rfl (lv_at hl 1 rfl) ?_
        refine g_top (y := (nI (tk a1))) ha1e ?_
        refine g_runS (As := [.int (nI (tk a1))]) (rest := [.int ((S 2) (tk a2)), .int (nI (tk a2)), .ref (x + 5)]) (own := RX7) 1 hx hb hml hown hts hK hz hP hL hS hlo hl.1 (c_X7_bit l (tk a1) τ_1 z_1) gX7_mark_X7_bit rfl rfl rfl (by decide +kernel) ⟨Nat.le_of_ble_eq_true rfl, Nat.le_of_ble_eq_true rfl⟩ rfl rfl (Nat.le_of_ble_eq_true rfl) dX7_mark_71 ⟨Nat.le_of_ble_eq_true rfl, Nat.le_of_ble_eq_true rfl⟩ (g_ki0 (fun H locs hz hP hL hS => ?_))
        refine lv_ixor hx hb dX7_mark_74 ?_
        refine g_runV (As := [.int (nI (tk a2)), .int (((S 2) (tk a2)) ^^^ (bitI (tk a1)))]) (rest := []) (own := RX7) (C := RX2) (T := TX2) (N := 1) 2 hx hb hml hown hts hK hz hP hL hS hlo hl.1 (c_X2_put l (x + 5) 96 (tk a2) (S 2) ((((S 2) (tk a2)) ^^^ (bitI (tk a1)))) τ_1 z_1 ⟨hSt.c5, hSt.c6⟩ (by omega) (by omega)) gX7_mark_X2_put rfl rfl rfl (by decide +kernel) ⟨Nat.le_of_ble_eq_true rfl, Nat.le_of_ble_eq_true rfl⟩ hSt.c5 rfl rfl rfl (Nat.le_of_ble_eq_true rfl) dX7_mark_75 ⟨Nat.le_of_ble_eq_true rfl, Nat.le_of_ble_eq_true rfl⟩ (g_kv0 (fun H locs hz hP hL hS => ?_))
        obtain ⟨σ2, e2⟩ : ∃ υ0 : gS, υ0 = gup τ_1 (x + 6) (gI 96 (upd (S 2) (tk a2) ((((S 2) (tk a2)) ^^^ (bitI (tk a1)))))) := ⟨_, rfl⟩
        have hP : gH D ka σ2 H := by rw [e2]; exact hP
        have hL : gL lo σ2 := by rw [e2]; exact hL
        have hTx := hTx.fr (τ := σ2) (fun q h1 h2 => gup_eq e2 (by omega))
        have hPa := hPa.fr (τ := σ2) (fun q h1 h2 => gup_eq e2 (by omega))
        have hVo := hVo.fr (τ := σ2) (fun q h1 h2 => gup_eq e2 (by omega))
        have hCh := hCh.fr (τ := σ2) (fun q h1 h2 => gup_eq e2 (by omega))
        have hTu := hTu.fr (τ := σ2) (fun q h1 h2 => gup_eq e2 (by omega))
        have hPl := hPl.fr (τ := σ2) (fun q h1 h2 => gup_eq e2 (by omega))
        have hSt : StAt σ2 x (sRow S 2 (upd (S 2) (tk a2) ((((S 2) (tk a2)) ^^^ (bitI (tk a1)))))) := by rw [e2]; exact hSt.w6 (upd (S 2) (tk a2) ((((S 2) (tk a2)) ^^^ (bitI (tk a1)))))
        have hag := hag.upe e2 (.inl ⟨by omega, by omega⟩)
        have hB_3 : sB (sRow S 2 (upd (S 2) (tk a2) ((((S 2) (tk a2)) ^^^ (bitI (tk a1)))))) ≤ 96 := hB
        have hN_3 : sN (sRow S 2 (upd (S 2) (tk a2) ((((S 2) (tk a2)) ^^^ (bitI (tk a1)))))) ≤ 12 := hN
        have hKs_3 : sK (sRow S 2 (upd (S 2) (tk a2) ((((S 2) (tk a2)) ^^^ (bitI (tk a1)))))) ≤ 8 := hKs
        have hRs_3 : sR (sRow S 2 (upd (S 2) (tk a2) ((((S 2) (tk a2)) ^^^ (bitI (tk a1)))))) ≤ 8 := hRs
        refine lv_aload_n hx hb dX7_mark_78 rfl (lv_at hl 0 rfl) ?_
        refine g_get (C := RX7) (T := TX7) (N := 7) hx hb hts hown hK hP (gup_off e2 (by omega) ((ha_1 _ (fun h => Or.elim h (fun h3 => by have h4 := h3.1; have h5 := h3.2; omega) (fun h3 => by have h4 : b ≤ _ := h3; omega))).trans ho0)) nX7_mark_X7 rfl 0 (by decide) (by decide +kernel) rfl (v := .ref x) rfl dX7_mark_79 ?_
        refine lv_iload_n hx hb dX7_mark_82 rfl (lv_at hl 1 rfl) ?_
        refine g_top (y := (nI (tk a1))) ha1e ?_
        refine g_runV (As := [.int (nI (tk a1))]) (rest := []) (own := RX7) (C := RX4) (T := TX4) (N := 13) 1 hx hb hml hown hts hK hz hP hL hS hlo hl.1 (c_X4_countMarksOf l x (sRow S 2 (upd (S 2) (tk a2) ((((S 2) (tk a2)) ^^^ (bitI (tk a1)))))) (tk a1) σ2 z_1 hSt (by omega)) gX7_mark_X4_countMarksOf rfl rfl rfl (by decide +kernel) ⟨Nat.le_of_ble_eq_true rfl, Nat.le_of_ble_eq_true rfl⟩ hSt.c0 rfl rfl rfl (Nat.le_of_ble_eq_true rfl) dX7_mark_83 ⟨Nat.le_of_ble_eq_true rfl, Nat.le_of_ble_eq_true rfl⟩ (g_ki0 (fun H locs hz hP hL hS => ?_))
        refine W.widen (k := 17) (n := 789) (Nat.le_of_ble_eq_true rfl) (Nat.le_of_ble_eq_true rfl) ?_
        exact g_iret (z := z_1) hx hb hr hlk hz hP hL hS dX7_mark_86 (gxi_i (wP_s (by unfold o_mark; rw [if_pos (by first | exact c8 | exact nb c8 | exact Ne.symm c8 | exact fun q => q c8 | exact fun q => q c8.symm | omega), if_pos (by first | exact c19 | exact nb c19 | exact Ne.symm c19 | exact fun q => q c19 | exact fun q => q c19.symm | omega), if_pos (by first | exact c34 | exact nb c34 | exact Ne.symm c34 | exact fun q => q c34 | exact fun q => q c34.symm | omega)]) ⟨x, t, pa, sn, v, ch, tu, _, _, ⟨hx0, ht0, hpa0, hsn0, hv0, hch0, htu0, hob⟩, (gup_off e2 (by omega) ((ha_1 _ (fun h => Or.elim h (fun h3 => by have h4 := h3.1; have h5 := h3.2; omega) (fun h3 => by have h4 : b ≤ _ := h3; omega))).trans ho0)), hSt, ⟨_, _, _, _, hTx⟩, hPa, (gup_off e2 (by omega) ((ha_1 _ (fun h => Or.elim h (fun h3 => by have h4 := h3.1; have h5 := h3.2; omega) (fun h3 => by have h4 : b ≤ _ := h3; omega))).trans hsn)), ⟨_, _, _, _, hVo⟩, ⟨_, _, _, hCh⟩, ⟨_, hTu⟩, hPl, hg_1, hkp, htn, recP_le _⟩ hzl hzu hag))
      · refine lv_bipush (v := (-5)) hx hb dX7_mark_37 (by decide) ?_
        refine W.widen (k := 17) (n := 789) (Nat.le_of_ble_eq_true rfl) (Nat.le_of_ble_eq_true rfl) ?_
        exact g_iret (z := sz) hx hb hr hlk hz hP hL hS dX7_mark_39 (gxi_i (wP_n (by unfold o_mark; rw [if_pos (by first | exact c8 | exact nb c8 | exact Ne.symm c8 | exact fun q => q c8 | exact fun q => q c8.symm | omega), if_pos (by first | exact c19 | exact nb c19 | exact Ne.symm c19 | exact fun q => q c19 | exact fun q => q c19.symm | omega), if_neg (by first | exact c34 | exact nb c34 | exact Ne.symm c34 | exact fun q => q c34 | exact fun q => q c34.symm | omega)]) ⟨x, t, pa, sn, v, ch, tu, _, _, ⟨hx0, ht0, hpa0, hsn0, hv0, hch0, htu0, hob⟩, ho0, hSt, ⟨_, _, _, _, hTx⟩, hPa, hsn, ⟨_, _, _, _, hVo⟩, ⟨_, _, _, hCh⟩, ⟨_, hTu⟩, hPl, hg, hkp, htn, hP5⟩ (Nat.le_refl _) (by omega) hag))
    · refine lv_iconst (v := (-1)) hx hb dX7_mark_22 (by decide) ?_
      refine W.widen (k := 17) (n := 789) (Nat.le_of_ble_eq_true rfl) (Nat.le_of_ble_eq_true rfl) ?_
      exact g_iret (z := sz) hx hb hr hlk hz hP hL hS dX7_mark_23 (gxi_i (wP_n (by unfold o_mark; rw [if_pos (by first | exact c8 | exact nb c8 | exact Ne.symm c8 | exact fun q => q c8 | exact fun q => q c8.symm | omega), if_neg (by first | exact c19 | exact nb c19 | exact Ne.symm c19 | exact fun q => q c19 | exact fun q => q c19.symm | omega)]) ⟨x, t, pa, sn, v, ch, tu, _, _, ⟨hx0, ht0, hpa0, hsn0, hv0, hch0, htu0, hob⟩, ho0, hSt, ⟨_, _, _, _, hTx⟩, hPa, hsn, ⟨_, _, _, _, hVo⟩, ⟨_, _, _, hCh⟩, ⟨_, hTu⟩, hPl, hg, hkp, htn, hP5⟩ (Nat.le_refl _) (by omega) hag))

theorem nX7_setReserve_X4 : ∀ w ∈ wsX40, w ∈ wsX7_setReserve := by decide +kernel
theorem nX7_setReserve_X7 : ∀ w ∈ wsX70, w ∈ wsX7_setReserve := by decide +kernel
set_option maxHeartbeats 4000000 in
set_option maxRecDepth 100000 in
theorem c_X7_setReserve (l : Launch) (o b : Nat) (S : sS) (tf : Nat → Int32) (tn P : Nat) (C : Nat → sS) (kp : Nat → Bool) (a1 : Int32) (σ : gS) (sz : Nat) (hW : Wo σ o b S tf tn P C kp sz) (hok : okS S) : gM l yX7_setReserve wsX7_setReserve ({ frames := 4, cells := 17, slots := 789, locals := 86 } : Room) 17 789 [.ref o, .int a1] σ sz (gxi (fun r τ n => wP o b σ S tf tn P C kp sz (o_setReserve S a1) r τ n)) := by
  refine gM_of (cc := cX7_setReserve) (maxL := 3) (ret := (some .int)) (by decide) rfl (Nat.le_of_ble_eq_true rfl) ?_
  intro D ka lo hL hlo p e s m below meth c hx hb hr hts hown hml hlk hnm hK H locs ls hz hP hS hl
  have hl : lv_has ls 3 [(0, .ref o), (1, .int a1)] := hl
  have hown : s.vm.findClass RX7 = some m.cls := hown
  obtain ⟨x, t, pa, sn, v, ch, tu, g, sg, ⟨hx0, ht0, hpa0, hsn0, hv0, hch0, htu0, hob⟩, ho0, hSt, ⟨ta, tso, tld, tti, hTx⟩, hPa, hsn, ⟨vd, vf, vb, vw, hVo⟩, ⟨ca, cb, cd, hCh⟩, ⟨lf, hTu⟩, hPl, hg, hkp, htn, hP5⟩ := hW
  obtain ⟨hB, hN, hKs, hRs⟩ := hok
  have hbz := hPl.1
  have hag : gAs (Zc o b) σ σ := gAs.rf
  refine lv_iload_n hx hb dX7_setReserve_0 rfl (lv_at hl 1 rfl) ?_
  refine lv_iconst (v := (nI 1)) hx hb dX7_setReserve_1 (by decide) ?_
  refine lv_bipush (v := (nI 8)) hx hb dX7_setReserve_2 (by decide) ?_
  refine g_runS (As := [.int a1, .int (nI 1), .int (nI 8)]) (rest := []) (own := RX7) 3 hx hb hml hown hts hK hz hP hL hS hlo hl.1 (c_X7_isWithin l a1 ((nI 1)) ((nI 8)) σ sz) gX7_setReserve_X7_isWithin rfl rfl rfl (by decide +kernel) ⟨Nat.le_of_ble_eq_true rfl, Nat.le_of_ble_eq_true rfl⟩ rfl rfl (Nat.le_of_ble_eq_true rfl) dX7_setReserve_4 ⟨Nat.le_of_ble_eq_true rfl, Nat.le_of_ble_eq_true rfl⟩ (g_ki0 (fun H locs hz hP hL hS => ?_))
  refine g_ifb_ne (tgt := 13) hx hb dX7_setReserve_7 (by decide) (fun c7 => ?_) (fun c7 => ?_)
  · obtain ⟨ha1e, ha1l⟩ := tk_wi (by decide) (by decide) c7
    refine lv_aload_n hx hb dX7_setReserve_13 rfl (lv_at hl 0 rfl) ?_
    refine g_get (C := RX7) (T := TX7) (N := 7) hx hb hts hown hK hP ho0 nX7_setReserve_X7 rfl 2 (by decide) (by decide +kernel) rfl (v := .ref pa) rfl dX7_setReserve_14 ?_
    refine lv_aload_n hx hb dX7_setReserve_17 rfl (lv_at hl 0 rfl) ?_
    refine g_get (C := RX7) (T := TX7) (N := 7) hx hb hts hown hK hP ho0 nX7_setReserve_X7 rfl 0 (by decide) (by decide +kernel) rfl (v := .ref x) rfl dX7_setReserve_18 ?_
    refine g_runV (As := [.ref x]) (rest := []) (own := RX7) (C := RX1) (T := TX1) (N := 2) 1 hx hb hml hown hts hK hz hP hL hS hlo hl.1 (c_X1_record l pa b x P g sg C S σ sz hPa hPl (by omega) hSt (by omega) (by omega) hP5 hg ⟨by omega, by omega, by omega, by omega⟩) gX7_setReserve_X1_record rfl rfl rfl (by decide +kernel) ⟨Nat.le_of_ble_eq_true rfl, Nat.le_of_ble_eq_true rfl⟩ hPa.c0 rfl rfl rfl (Nat.le_of_ble_eq_true rfl) dX7_setReserve_21 ⟨Nat.le_of_ble_eq_true rfl, Nat.le_of_ble_eq_true rfl⟩ (g_kxv (fun τ_1 H locs z_1 hz hp hP hL hS => ?_))
    obtain ⟨g_1, hzl, hzu, hp_1, hl_1, hg_1, hs_1, ha_1⟩ := hp
    have hTx := hTx.fr (τ := τ_1) (fun q h1 h2 => ha_1 q (fun h => Or.elim h (fun h3 => by have h4 := h3.1; have h5 := h3.2; omega) (fun h3 => by have h4 : b ≤ _ := h3; omega)))
    have hVo := hVo.fr (τ := τ_1) (fun q h1 h2 => ha_1 q (fun h => Or.elim h (fun h3 => by have h4 := h3.1; have h5 := h3.2; omega) (fun h3 => by have h4 : b ≤ _ := h3; omega)))
    have hCh := hCh.fr (τ := τ_1) (fun q h1 h2 => ha_1 q (fun h => Or.elim h (fun h3 => by have h4 := h3.1; have h5 := h3.2; omega) (fun h3 => by have h4 : b ≤ _ := h3; omega)))
    have hTu := hTu.fr (τ := τ_1) (fun q h1 h2 => ha_1 q (fun h => Or.elim h (fun h3 => by have h4 := h3.1; have h5 := h3.2; omega) (fun h3 => by have h4 : b ≤ _ := h3; omega)))
    have hPa := hp_1
    have hSt := hs_1
    have hag := hag.tr ha_1 (fun q h => Or.elim h (fun h3 => .inl ⟨by have h4 := h3.1; omega, by have h4 := h3.2; omega⟩) (fun h3 => .inr h3))
    have hPl := hl_1
    have hbz := hPl.1
    have hlo : lo ≤ z_1 := Nat.le_trans hlo hzl
    refine lv_aload_n hx hb dX7_setReserve_24 rfl (lv_at hl 0 rfl) ?_
    refine g_get (C := RX7) (T := TX7) (N := 7) hx hb hts hown hK hP ((ha_1 _ (fun h => Or.elim h (fun h3 => by have h4 := h3.1; have h5 := h3.2; omega) (fun h3 => by have h4 : b ≤ _ := h3; omega))).trans ho0) nX7_setReserve_X7 rfl 0 (by decide) (by decide +kernel) rfl (v := .ref x) rfl dX7_setReserve_25 ?_
    refine g_get (C := RX4) (T := TX4) (N := 13) hx hb hts hown hK hP hSt.c0 nX7_setReserve_X4 rfl 4 (by decide) (by decide +kernel) rfl (v := .int (nI (sR S))) rfl dX7_setReserve_28 ?_
    refine lv_istore_n (lv' := [(2, .int (nI (sR S))), (0, .ref o), (1, .int a1)]) hx hb dX7_setReserve_31 rfl hl (by decide) rfl (fun ls hl => ?_)
    refine lv_aload_n hx hb dX7_setReserve_32 rfl (lv_at hl 1 rfl) ?_
    refine g_get (C := RX7) (T := TX7) (N := 7) hx hb hts hown hK hP ((ha_1 _ (fun h => Or.elim h (fun h3 => by have h4 := h3.1; have h5 := h3.2; omega) (fun h3 => by have h4 : b ≤ _ := h3; omega))).trans ho0) nX7_setReserve_X7 rfl 0 (by decide) (by decide +kernel) rfl (v := .ref x) rfl dX7_setReserve_33 ?_
    refine lv_iload_n hx hb dX7_setReserve_36 rfl (lv_at hl 2 rfl) ?_
    refine g_top (y := (nI (tk a1))) ha1e ?_
    refine g_put (C := RX4) (T := TX4) (N := 13) hx hb hts hown hK hP hL hS hSt.c0 nX7_setReserve_X4 tyX4 tyX4_ok nmX4 rfl 4 (by decide) (by decide +kernel) rfl rfl (v := .int (nI (tk a1))) rfl rfl (Nat.le_of_ble_eq_true rfl) dX7_setReserve_37 (fun H locs hq hP hL hS => ?_)
    have hz := hq.trans hz
    obtain ⟨σ2, e2⟩ : ∃ υ0 : gS, υ0 = gup τ_1 x (gO 4 [.int (nI (sB S)), .int (nI (sN S)), .int (S 8 2), .int (nI (sK S)), .int (nI (tk a1)), .ref (x + 1), .ref (x + 3), .ref (x + 5), .ref (x + 7), .ref (x + 9), .ref (x + 11), .ref (x + 13), .ref (x + 15)]) := ⟨_, rfl⟩
    have hP : gH D ka σ2 H := by rw [e2]; exact hP
    have hL : gL lo σ2 := by rw [e2]; exact hL
    have hTx := hTx.fr (τ := σ2) (fun q h1 h2 => gup_eq e2 (by omega))
    have hPa := hPa.fr (τ := σ2) (fun q h1 h2 => gup_eq e2 (by omega))
    have hVo := hVo.fr (τ := σ2) (fun q h1 h2 => gup_eq e2 (by omega))
    have hCh := hCh.fr (τ := σ2) (fun q h1 h2 => gup_eq e2 (by omega))
    have hTu := hTu.fr (τ := σ2) (fun q h1 h2 => gup_eq e2 (by omega))
    have hPl := hPl.fr (τ := σ2) (fun q h1 h2 => gup_eq e2 (by omega))
    have hSt : StAt σ2 x (sPut S 8 4 (nI (tk a1))) := by rw [e2]; exact hSt.p4 (tk a1) (by omega)
    have hag := hag.upe e2 (.inl ⟨by omega, by omega⟩)
    refine lv_iload_n hx hb dX7_setReserve_40 rfl (lv_at hl 0 rfl) ?_
    refine W.widen (k := 17) (n := 789) (Nat.le_of_ble_eq_true rfl) (Nat.le_of_ble_eq_true rfl) ?_
    exact g_iret (z := z_1) hx hb hr hlk hz hP hL hS dX7_setReserve_41 (gxi_i (wP_s (by unfold o_setReserve; rw [if_pos (by first | exact c7 | exact nb c7 | exact Ne.symm c7 | exact fun q => q c7 | exact fun q => q c7.symm | omega)]) ⟨x, t, pa, sn, v, ch, tu, _, _, ⟨hx0, ht0, hpa0, hsn0, hv0, hch0, htu0, hob⟩, (gup_off e2 (by omega) ((ha_1 _ (fun h => Or.elim h (fun h3 => by have h4 := h3.1; have h5 := h3.2; omega) (fun h3 => by have h4 : b ≤ _ := h3; omega))).trans ho0)), hSt, ⟨_, _, _, _, hTx⟩, hPa, (gup_off e2 (by omega) ((ha_1 _ (fun h => Or.elim h (fun h3 => by have h4 := h3.1; have h5 := h3.2; omega) (fun h3 => by have h4 : b ≤ _ := h3; omega))).trans hsn)), ⟨_, _, _, _, hVo⟩, ⟨_, _, _, hCh⟩, ⟨_, hTu⟩, hPl, hg_1, hkp, htn, recP_le _⟩ hzl hzu hag))
  · refine lv_bipush (v := (-2)) hx hb dX7_setReserve_10 (by decide) ?_
    refine W.widen (k := 17) (n := 789) (Nat.le_of_ble_eq_true rfl) (Nat.le_of_ble_eq_true rfl) ?_
    exact g_iret (z := sz) hx hb hr hlk hz hP hL hS dX7_setReserve_12 (gxi_i (wP_n (by unfold o_setReserve; rw [if_neg (by first | exact c7 | exact nb c7 | exact Ne.symm c7 | exact fun q => q c7 | exact fun q => q c7.symm | omega)]) ⟨x, t, pa, sn, v, ch, tu, _, _, ⟨hx0, ht0, hpa0, hsn0, hv0, hch0, htu0, hob⟩, ho0, hSt, ⟨_, _, _, _, hTx⟩, hPa, hsn, ⟨_, _, _, _, hVo⟩, ⟨_, _, _, hCh⟩, ⟨_, hTu⟩, hPl, hg, hkp, htn, hP5⟩ (Nat.le_refl _) (by omega) hag))


theorem clearS_B (S : sS) : sB (clearS S) = 0 := rfl
theorem paF_neg {f : Nat → Int32} {n : Nat} : ∀ (k a su : Nat) (tm : Option Nat), (∀ j : Nat, tm = some j → j < 2147483648) → (∀ a : Nat, a < n → (itF f n a).2.1 < 2147483648) → n < 2147483648 → paF f n k a su tm < 0 → paF f n k a su tm = -1 := by
  intro k
  have hoJ : ∀ tm : Option Nat, (∀ j : Nat, tm = some j → j < 2147483648) → oJ tm < 0 → oJ tm = -1 := fun tm ht h => by
    cases tm with
    | none => rfl
    | some j => exact absurd h (nI_pos' (ht j rfl) |> Int32.not_lt.mpr)
  induction k with
  | zero => intro a su tm ht hi hn h; exact hoJ tm ht h
  | succ k ih =>
    intro a su tm ht hi hn h
    rw [paF] at h ⊢
    by_cases c : a < n
    · rw [if_pos c] at h ⊢
      by_cases c2 : (itF f n a).1 = true
      · rw [if_pos c2] at h ⊢
        exact ih _ _ _ (fun j hj => by
          by_cases c3 : 96 < su + (itF f n a).2.2.2.2 ∧ tm = none
          · rw [if_pos c3] at hj; cases hj; omega
          · rw [if_neg c3] at hj; exact ht j hj) hi hn h
      · rw [if_neg c2] at h
        exact absurd h (Int32.not_lt.mpr (nI_pos' (hi a c)))
    · rw [if_neg c] at h ⊢
      exact hoJ tm ht h
theorem ff_ok {f : Nat → Int32} {n : Nat} (h : ffI f n < 0) (hn : n ≤ 60) : paF f n 60 0 0 none = -1 := by
  rw [ffI] at h
  by_cases c : n = 0
  · rw [if_pos c] at h; exact absurd h (by decide)
  · rw [if_neg c] at h
    exact paF_neg 60 0 0 none (fun j hj => by cases hj) (fun a ha => by have := (itF_a (f := f) (n := n) (a := a)); omega) (by omega) h
def o_read (S : sS) (tf : Nat → Int32) (tn : Nat) : Int32 × Option sS := if ffI tf tn < 0 then (nI (sB (wrF tf tn 60 0 (clearS S))), some (wrF tf tn 60 0 (clearS S))) else (-100 - ffI tf tn, none)

theorem nX7_make_X4 : ∀ w ∈ wsX40, w ∈ wsX7_make := by decide +kernel
theorem nX7_make_X7 : ∀ w ∈ wsX70, w ∈ wsX7_make := by decide +kernel
set_option maxHeartbeats 4000000 in
set_option maxRecDepth 100000 in
theorem c_X7_make (l : Launch) (o b : Nat) (S : sS) (tf : Nat → Int32) (tn P : Nat) (C : Nat → sS) (kp : Nat → Bool) (np : Nat) (σ : gS) (sz : Nat) (hW : Wo σ o b S tf tn P C kp sz) (hok : okS S) (hpr : bcI (S 8 2) = nI np) (hnp : np ≤ 12) : gM l yX7_make wsX7_make ({ frames := 6, cells := 17, slots := 789, locals := 136 } : Room) 17 789 [.ref o] σ sz (gxi (fun r τ n => wP o b σ S tf tn P C kp sz (o_make S np) r τ n)) := by
  refine gM_of (cc := cX7_make) (maxL := 1) (ret := (some .int)) (by decide) rfl (Nat.le_of_ble_eq_true rfl) ?_
  intro D ka lo hL hlo p e s m below meth c hx hb hr hts hown hml hlk hnm hK H locs ls hz hP hS hl
  have hl : lv_has ls 1 [(0, .ref o)] := hl
  have hown : s.vm.findClass RX7 = some m.cls := hown
  obtain ⟨x, t, pa, sn, v, ch, tu, g, sg, ⟨hx0, ht0, hpa0, hsn0, hv0, hch0, htu0, hob⟩, ho0, hSt, ⟨ta, tso, tld, tti, hTx⟩, hPa, hsn, ⟨vd, vf, vb, vw, hVo⟩, ⟨ca, cb, cd, hCh⟩, ⟨lf, hTu⟩, hPl, hg, hkp, htn, hP5⟩ := hW
  obtain ⟨hB, hN, hKs, hRs⟩ := hok
  have hbz := hPl.1
  have hag : gAs (Zc o b) σ σ := gAs.rf
  refine lv_aload_n hx hb dX7_make_0 rfl (lv_at hl 0 rfl) ?_
  refine g_get (C := RX7) (T := TX7) (N := 7) hx hb hts hown hK hP ho0 nX7_make_X7 rfl 0 (by decide) (by decide +kernel) rfl (v := .ref x) rfl dX7_make_1 ?_
  refine g_get (C := RX4) (T := TX4) (N := 13) hx hb hts hown hK hP hSt.c0 nX7_make_X4 rfl 2 (by decide) (by decide +kernel) rfl (v := .int (S 8 2)) rfl dX7_make_4 ?_
  refine lv_if_eq (tgt := 20) hx hb dX7_make_7 (by decide) (fun c7 => ?_) (fun c7 => ?_)
  · refine lv_bipush (v := (-4)) hx hb dX7_make_20 (by decide) ?_
    refine W.widen (k := 17) (n := 789) (Nat.le_of_ble_eq_true rfl) (Nat.le_of_ble_eq_true rfl) ?_
    exact g_iret (z := sz) hx hb hr hlk hz hP hL hS dX7_make_22 (gxi_i (wP_n (by unfold o_make; rw [if_pos (by first | exact c7 | exact nb c7 | exact Ne.symm c7 | exact fun q => q c7 | exact fun q => q c7.symm | omega)]) ⟨x, t, pa, sn, v, ch, tu, _, _, ⟨hx0, ht0, hpa0, hsn0, hv0, hch0, htu0, hob⟩, ho0, hSt, ⟨_, _, _, _, hTx⟩, hPa, hsn, ⟨_, _, _, _, hVo⟩, ⟨_, _, _, hCh⟩, ⟨_, hTu⟩, hPl, hg, hkp, htn, hP5⟩ (Nat.le_refl _) (by omega) hag))
  · refine lv_aload_n hx hb dX7_make_10 rfl (lv_at hl 0 rfl) ?_
    refine g_get (C := RX7) (T := TX7) (N := 7) hx hb hts hown hK hP ho0 nX7_make_X7 rfl 0 (by decide) (by decide +kernel) rfl (v := .ref x) rfl dX7_make_11 ?_
    refine g_get (C := RX4) (T := TX4) (N := 13) hx hb hts hown hK hP hSt.c0 nX7_make_X4 rfl 0 (by decide) (by decide +kernel) rfl (v := .int (nI (sB S))) rfl dX7_make_14 ?_
    refine g_if_ne (tgt := 23) hx hb (by omega) dX7_make_17 (by decide) (fun c17 => ?_) (fun c17 => ?_)
    · refine lv_aload_n hx hb dX7_make_23 rfl (lv_at hl 0 rfl) ?_
      refine g_get (C := RX7) (T := TX7) (N := 7) hx hb hts hown hK hP ho0 nX7_make_X7 rfl 2 (by decide) (by decide +kernel) rfl (v := .ref pa) rfl dX7_make_24 ?_
      refine lv_aload_n hx hb dX7_make_27 rfl (lv_at hl 0 rfl) ?_
      refine g_get (C := RX7) (T := TX7) (N := 7) hx hb hts hown hK hP ho0 nX7_make_X7 rfl 0 (by decide) (by decide +kernel) rfl (v := .ref x) rfl dX7_make_28 ?_
      refine g_runV (As := [.ref x]) (rest := []) (own := RX7) (C := RX1) (T := TX1) (N := 2) 1 hx hb hml hown hts hK hz hP hL hS hlo hl.1 (c_X1_record l pa b x P g sg C S σ sz hPa hPl (by omega) hSt (by omega) (by omega) hP5 hg ⟨by omega, by omega, by omega, by omega⟩) gX7_make_X1_record rfl rfl rfl (by decide +kernel) ⟨Nat.le_of_ble_eq_true rfl, Nat.le_of_ble_eq_true rfl⟩ hPa.c0 rfl rfl rfl (Nat.le_of_ble_eq_true rfl) dX7_make_31 ⟨Nat.le_of_ble_eq_true rfl, Nat.le_of_ble_eq_true rfl⟩ (g_kxv (fun τ_1 H locs z_1 hz hp hP hL hS => ?_))
      obtain ⟨g_1, hzl, hzu, hp_1, hl_1, hg_1, hs_1, ha_1⟩ := hp
      have hTx := hTx.fr (τ := τ_1) (fun q h1 h2 => ha_1 q (fun h => Or.elim h (fun h3 => by have h4 := h3.1; have h5 := h3.2; omega) (fun h3 => by have h4 : b ≤ _ := h3; omega)))
      have hVo := hVo.fr (τ := τ_1) (fun q h1 h2 => ha_1 q (fun h => Or.elim h (fun h3 => by have h4 := h3.1; have h5 := h3.2; omega) (fun h3 => by have h4 : b ≤ _ := h3; omega)))
      have hCh := hCh.fr (τ := τ_1) (fun q h1 h2 => ha_1 q (fun h => Or.elim h (fun h3 => by have h4 := h3.1; have h5 := h3.2; omega) (fun h3 => by have h4 : b ≤ _ := h3; omega)))
      have hTu := hTu.fr (τ := τ_1) (fun q h1 h2 => ha_1 q (fun h => Or.elim h (fun h3 => by have h4 := h3.1; have h5 := h3.2; omega) (fun h3 => by have h4 : b ≤ _ := h3; omega)))
      have hPa := hp_1
      have hSt := hs_1
      have hag := hag.tr ha_1 (fun q h => Or.elim h (fun h3 => .inl ⟨by have h4 := h3.1; omega, by have h4 := h3.2; omega⟩) (fun h3 => .inr h3))
      have hPl := hl_1
      have hbz := hPl.1
      have hlo : lo ≤ z_1 := Nat.le_trans hlo hzl
      refine lv_aload_n hx hb dX7_make_34 rfl (lv_at hl 0 rfl) ?_
      refine g_get (C := RX7) (T := TX7) (N := 7) hx hb hts hown hK hP ((ha_1 _ (fun h => Or.elim h (fun h3 => by have h4 := h3.1; have h5 := h3.2; omega) (fun h3 => by have h4 : b ≤ _ := h3; omega))).trans ho0) nX7_make_X7 rfl 6 (by decide) (by decide +kernel) rfl (v := .ref tu) rfl dX7_make_35 ?_
      refine lv_aload_n hx hb dX7_make_38 rfl (lv_at hl 0 rfl) ?_
      refine g_get (C := RX7) (T := TX7) (N := 7) hx hb hts hown hK hP ((ha_1 _ (fun h => Or.elim h (fun h3 => by have h4 := h3.1; have h5 := h3.2; omega) (fun h3 => by have h4 : b ≤ _ := h3; omega))).trans ho0) nX7_make_X7 rfl 0 (by decide) (by decide +kernel) rfl (v := .ref x) rfl dX7_make_39 ?_
      refine g_runV (As := [.ref x]) (rest := []) (own := RX7) (C := RX5) (T := TX5) (N := 1) 1 hx hb hml hown hts hK hz hP hL hS hlo hl.1 (c_X5_makePlan l tu x S lf np τ_1 z_1 hTu hSt (by omega) (by omega) (by omega) (by omega) (by omega) hpr hnp) gX7_make_X5_makePlan rfl rfl rfl (by decide +kernel) ⟨Nat.le_of_ble_eq_true rfl, Nat.le_of_ble_eq_true rfl⟩ hTu.c0 rfl rfl rfl (Nat.le_of_ble_eq_true rfl) dX7_make_42 ⟨Nat.le_of_ble_eq_true rfl, Nat.le_of_ble_eq_true rfl⟩ (g_kxv0 (fun τ_2 H locs z1 hz hp hP hL hS => ?_))
      obtain ⟨hz1, hs_2, ⟨L_2, ht_2⟩, ha_2⟩ := hp
      have hz := hz.trans hz1
      have hTx := hTx.fr (τ := τ_2) (fun q h1 h2 => ha_2 q (fun h => Or.elim h (fun h3 => by have h4 := h3.1; have h5 := h3.2; omega) (fun h3 => by have h4 := h3.1; have h5 := h3.2; omega)))
      have hPa := hPa.fr (τ := τ_2) (fun q h1 h2 => ha_2 q (fun h => Or.elim h (fun h3 => by have h4 := h3.1; have h5 := h3.2; omega) (fun h3 => by have h4 := h3.1; have h5 := h3.2; omega)))
      have hVo := hVo.fr (τ := τ_2) (fun q h1 h2 => ha_2 q (fun h => Or.elim h (fun h3 => by have h4 := h3.1; have h5 := h3.2; omega) (fun h3 => by have h4 := h3.1; have h5 := h3.2; omega)))
      have hCh := hCh.fr (τ := τ_2) (fun q h1 h2 => ha_2 q (fun h => Or.elim h (fun h3 => by have h4 := h3.1; have h5 := h3.2; omega) (fun h3 => by have h4 := h3.1; have h5 := h3.2; omega)))
      have hPl := hPl.fr (τ := τ_2) (fun q h1 h2 => ha_2 q (fun h => Or.elim h (fun h3 => by have h4 := h3.1; have h5 := h3.2; omega) (fun h3 => by have h4 := h3.1; have h5 := h3.2; omega)))
      have hSt := hs_2
      have hTu := ht_2
      have hag := hag.tr ha_2 (fun q h => Or.elim h (fun h3 => .inl ⟨by have h4 := h3.1; omega, by have h4 := h3.2; omega⟩) (fun h3 => .inl ⟨by have h4 := h3.1; omega, by have h4 := h3.2; omega⟩))
      have hB_3 : sB (planS S np) ≤ 96 := hB
      have hN_3 : sN (planS S np) ≤ 12 := hN
      have hKs_3 : sK (planS S np) ≤ 8 := hKs
      have hRs_3 : sR (planS S np) ≤ 8 := hRs
      refine lv_aload_n hx hb dX7_make_45 rfl (lv_at hl 0 rfl) ?_
      refine g_get (C := RX7) (T := TX7) (N := 7) hx hb hts hown hK hP ((ha_2 _ (fun h => Or.elim h (fun h3 => by have h4 := h3.1; have h5 := h3.2; omega) (fun h3 => by have h4 := h3.1; have h5 := h3.2; omega))).trans ((ha_1 _ (fun h => Or.elim h (fun h3 => by have h4 := h3.1; have h5 := h3.2; omega) (fun h3 => by have h4 : b ≤ _ := h3; omega))).trans ho0)) nX7_make_X7 rfl 0 (by decide) (by decide +kernel) rfl (v := .ref x) rfl dX7_make_46 ?_
      refine g_runV (As := []) (rest := []) (own := RX7) (C := RX4) (T := TX4) (N := 13) 0 hx hb hml hown hts hK hz hP hL hS hlo hl.1 (c_X4_countMarks l x (planS S np)  τ_2 z_1 hSt (by omega)) gX7_make_X4_countMarks rfl rfl rfl (by decide +kernel) ⟨Nat.le_of_ble_eq_true rfl, Nat.le_of_ble_eq_true rfl⟩ hSt.c0 rfl rfl rfl (Nat.le_of_ble_eq_true rfl) dX7_make_49 ⟨Nat.le_of_ble_eq_true rfl, Nat.le_of_ble_eq_true rfl⟩ (g_ki0 (fun H locs hz hP hL hS => ?_))
      refine W.widen (k := 17) (n := 789) (Nat.le_of_ble_eq_true rfl) (Nat.le_of_ble_eq_true rfl) ?_
      exact g_iret (z := z_1) hx hb hr hlk hz hP hL hS dX7_make_52 (gxi_i (wP_s (by unfold o_make; rw [if_neg (by first | exact c7 | exact nb c7 | exact Ne.symm c7 | exact fun q => q c7 | exact fun q => q c7.symm | omega), if_neg (by first | exact c17 | exact nb c17 | exact Ne.symm c17 | exact fun q => q c17 | exact fun q => q c17.symm | omega)]) ⟨x, t, pa, sn, v, ch, tu, _, _, ⟨hx0, ht0, hpa0, hsn0, hv0, hch0, htu0, hob⟩, ((ha_2 _ (fun h => Or.elim h (fun h3 => by have h4 := h3.1; have h5 := h3.2; omega) (fun h3 => by have h4 := h3.1; have h5 := h3.2; omega))).trans ((ha_1 _ (fun h => Or.elim h (fun h3 => by have h4 := h3.1; have h5 := h3.2; omega) (fun h3 => by have h4 : b ≤ _ := h3; omega))).trans ho0)), hSt, ⟨_, _, _, _, hTx⟩, hPa, ((ha_2 _ (fun h => Or.elim h (fun h3 => by have h4 := h3.1; have h5 := h3.2; omega) (fun h3 => by have h4 := h3.1; have h5 := h3.2; omega))).trans ((ha_1 _ (fun h => Or.elim h (fun h3 => by have h4 := h3.1; have h5 := h3.2; omega) (fun h3 => by have h4 : b ≤ _ := h3; omega))).trans hsn)), ⟨_, _, _, _, hVo⟩, ⟨_, _, _, hCh⟩, ⟨_, hTu⟩, hPl, hg_1, hkp, htn, recP_le _⟩ hzl hzu hag))
    · refine lv_bipush (v := (-4)) hx hb dX7_make_20 (by decide) ?_
      refine W.widen (k := 17) (n := 789) (Nat.le_of_ble_eq_true rfl) (Nat.le_of_ble_eq_true rfl) ?_
      exact g_iret (z := sz) hx hb hr hlk hz hP hL hS dX7_make_22 (gxi_i (wP_n (by unfold o_make; rw [if_neg (by first | exact c7 | exact nb c7 | exact Ne.symm c7 | exact fun q => q c7 | exact fun q => q c7.symm | omega), if_pos (by first | exact c17 | exact nb c17 | exact Ne.symm c17 | exact fun q => q c17 | exact fun q => q c17.symm | omega)]) ⟨x, t, pa, sn, v, ch, tu, _, _, ⟨hx0, ht0, hpa0, hsn0, hv0, hch0, htu0, hob⟩, ho0, hSt, ⟨_, _, _, _, hTx⟩, hPa, hsn, ⟨_, _, _, _, hVo⟩, ⟨_, _, _, hCh⟩, ⟨_, hTu⟩, hPl, hg, hkp, htn, hP5⟩ (Nat.le_refl _) (by omega) hag))

theorem nX7_read_X4 : ∀ w ∈ wsX40, w ∈ wsX7_read := by decide +kernel
theorem nX7_read_X7 : ∀ w ∈ wsX70, w ∈ wsX7_read := by decide +kernel
set_option maxHeartbeats 4000000 in
set_option maxRecDepth 100000 in
theorem c_X7_read (l : Launch) (o b : Nat) (S : sS) (tf : Nat → Int32) (tn P : Nat) (C : Nat → sS) (kp : Nat → Bool) (σ : gS) (sz : Nat) (hW : Wo σ o b S tf tn P C kp sz) (hok : okS S) : gM l yX7_read wsX7_read ({ frames := 6, cells := 17, slots := 789, locals := 131 } : Room) 17 789 [.ref o] σ sz (gxi (fun r τ n => wP o b σ S tf tn P C kp sz (o_read S tf tn) r τ n)) := by
  refine gM_of (cc := cX7_read) (maxL := 2) (ret := (some .int)) (by decide) rfl (Nat.le_of_ble_eq_true rfl) ?_
  intro D ka lo hL hlo p e s m below meth c hx hb hr hts hown hml hlk hnm hK H locs ls hz hP hS hl
  have hl : lv_has ls 2 [(0, .ref o)] := hl
  have hown : s.vm.findClass RX7 = some m.cls := hown
  obtain ⟨x, t, pa, sn, v, ch, tu, g, sg, ⟨hx0, ht0, hpa0, hsn0, hv0, hch0, htu0, hob⟩, ho0, hSt, ⟨ta, tso, tld, tti, hTx⟩, hPa, hsn, ⟨vd, vf, vb, vw, hVo⟩, ⟨ca, cb, cd, hCh⟩, ⟨lf, hTu⟩, hPl, hg, hkp, htn, hP5⟩ := hW
  obtain ⟨hB, hN, hKs, hRs⟩ := hok
  have hbz := hPl.1
  have hag : gAs (Zc o b) σ σ := gAs.rf
  refine lv_aload_n hx hb dX7_read_0 rfl (lv_at hl 0 rfl) ?_
  refine g_get (C := RX7) (T := TX7) (N := 7) hx hb hts hown hK hP ho0 nX7_read_X7 rfl 1 (by decide) (by decide +kernel) rfl (v := .ref t) rfl dX7_read_1 ?_
  refine g_runV (As := []) (rest := []) (own := RX7) (C := RX3) (T := TX3) (N := 6) 0 hx hb hml hown hts hK hz hP hL hS hlo hl.1 (c_X3_findFault l t tf tn ta tso tld tti σ sz hTx (by omega)) gX7_read_X3_findFault rfl rfl rfl (by decide +kernel) ⟨Nat.le_of_ble_eq_true rfl, Nat.le_of_ble_eq_true rfl⟩ hTx.c0 rfl rfl rfl (Nat.le_of_ble_eq_true rfl) dX7_read_4 ⟨Nat.le_of_ble_eq_true rfl, Nat.le_of_ble_eq_true rfl⟩ (g_kxi0 (fun r_1 τ_1 H locs z1 hz hp hP hL hS => ?_))
  obtain ⟨hr_1, hz1, ⟨a_1, so_1, ld_1, ti_1, ht_1⟩, ha_1⟩ := hp
  have hz := hz.trans hz1
  have hSt := hSt.fr (τ := τ_1) (fun q h1 h2 => ha_1 q (fun h => by have h3 := h.1; have h4 := h.2; omega))
  have hPa := hPa.fr (τ := τ_1) (fun q h1 h2 => ha_1 q (fun h => by have h3 := h.1; have h4 := h.2; omega))
  have hVo := hVo.fr (τ := τ_1) (fun q h1 h2 => ha_1 q (fun h => by have h3 := h.1; have h4 := h.2; omega))
  have hCh := hCh.fr (τ := τ_1) (fun q h1 h2 => ha_1 q (fun h => by have h3 := h.1; have h4 := h.2; omega))
  have hTu := hTu.fr (τ := τ_1) (fun q h1 h2 => ha_1 q (fun h => by have h3 := h.1; have h4 := h.2; omega))
  have hPl := hPl.fr (τ := τ_1) (fun q h1 h2 => ha_1 q (fun h => by have h3 := h.1; have h4 := h.2; omega))
  have hTx := ht_1
  have hag := hag.tr ha_1 (fun q h => .inl ⟨by have h3 := h.1; omega, by have h3 := h.2; omega⟩)
  subst hr_1
  refine lv_istore_n (lv' := [(1, .int (ffI tf tn)), (0, .ref o)]) hx hb dX7_read_7 rfl hl (by decide) rfl (fun ls hl => ?_)
  refine lv_iload_n hx hb dX7_read_8 rfl (lv_at hl 0 rfl) ?_
  refine lv_if_lt (tgt := 17) hx hb dX7_read_9 (by decide) (fun c9 => ?_) (fun c9 => ?_)
  · refine lv_aload_n hx hb dX7_read_17 rfl (lv_at hl 1 rfl) ?_
    refine g_get (C := RX7) (T := TX7) (N := 7) hx hb hts hown hK hP ((ha_1 _ (fun h => by have h3 := h.1; have h4 := h.2; omega)).trans ho0) nX7_read_X7 rfl 2 (by decide) (by decide +kernel) rfl (v := .ref pa) rfl dX7_read_18 ?_
    refine lv_aload_n hx hb dX7_read_21 rfl (lv_at hl 1 rfl) ?_
    refine g_get (C := RX7) (T := TX7) (N := 7) hx hb hts hown hK hP ((ha_1 _ (fun h => by have h3 := h.1; have h4 := h.2; omega)).trans ho0) nX7_read_X7 rfl 0 (by decide) (by decide +kernel) rfl (v := .ref x) rfl dX7_read_22 ?_
    refine g_runV (As := [.ref x]) (rest := []) (own := RX7) (C := RX1) (T := TX1) (N := 2) 1 hx hb hml hown hts hK hz hP hL hS hlo hl.1 (c_X1_record l pa b x P g sg C S τ_1 sz hPa hPl (by omega) hSt (by omega) (by omega) hP5 hg ⟨by omega, by omega, by omega, by omega⟩) gX7_read_X1_record rfl rfl rfl (by decide +kernel) ⟨Nat.le_of_ble_eq_true rfl, Nat.le_of_ble_eq_true rfl⟩ hPa.c0 rfl rfl rfl (Nat.le_of_ble_eq_true rfl) dX7_read_25 ⟨Nat.le_of_ble_eq_true rfl, Nat.le_of_ble_eq_true rfl⟩ (g_kxv (fun τ_2 H locs z_2 hz hp hP hL hS => ?_))
    obtain ⟨g_2, hzl, hzu, hp_2, hl_2, hg_2, hs_2, ha_2⟩ := hp
    have hTx := hTx.fr (τ := τ_2) (fun q h1 h2 => ha_2 q (fun h => Or.elim h (fun h3 => by have h4 := h3.1; have h5 := h3.2; omega) (fun h3 => by have h4 : b ≤ _ := h3; omega)))
    have hVo := hVo.fr (τ := τ_2) (fun q h1 h2 => ha_2 q (fun h => Or.elim h (fun h3 => by have h4 := h3.1; have h5 := h3.2; omega) (fun h3 => by have h4 : b ≤ _ := h3; omega)))
    have hCh := hCh.fr (τ := τ_2) (fun q h1 h2 => ha_2 q (fun h => Or.elim h (fun h3 => by have h4 := h3.1; have h5 := h3.2; omega) (fun h3 => by have h4 : b ≤ _ := h3; omega)))
    have hTu := hTu.fr (τ := τ_2) (fun q h1 h2 => ha_2 q (fun h => Or.elim h (fun h3 => by have h4 := h3.1; have h5 := h3.2; omega) (fun h3 => by have h4 : b ≤ _ := h3; omega)))
    have hPa := hp_2
    have hSt := hs_2
    have hag := hag.tr ha_2 (fun q h => Or.elim h (fun h3 => .inl ⟨by have h4 := h3.1; omega, by have h4 := h3.2; omega⟩) (fun h3 => .inr h3))
    have hPl := hl_2
    have hbz := hPl.1
    have hlo : lo ≤ z_2 := Nat.le_trans hlo hzl
    refine lv_aload_n hx hb dX7_read_28 rfl (lv_at hl 1 rfl) ?_
    refine g_get (C := RX7) (T := TX7) (N := 7) hx hb hts hown hK hP ((ha_2 _ (fun h => Or.elim h (fun h3 => by have h4 := h3.1; have h5 := h3.2; omega) (fun h3 => by have h4 : b ≤ _ := h3; omega))).trans ((ha_1 _ (fun h => by have h3 := h.1; have h4 := h.2; omega)).trans ho0)) nX7_read_X7 rfl 0 (by decide) (by decide +kernel) rfl (v := .ref x) rfl dX7_read_29 ?_
    refine g_runV (As := []) (rest := []) (own := RX7) (C := RX4) (T := TX4) (N := 13) 0 hx hb hml hown hts hK hz hP hL hS hlo hl.1 (c_X4_clearScore l x S  τ_2 z_2 hSt ) gX7_read_X4_clearScore rfl rfl rfl (by decide +kernel) ⟨Nat.le_of_ble_eq_true rfl, Nat.le_of_ble_eq_true rfl⟩ hSt.c0 rfl rfl rfl (Nat.le_of_ble_eq_true rfl) dX7_read_32 ⟨Nat.le_of_ble_eq_true rfl, Nat.le_of_ble_eq_true rfl⟩ (g_kxv0 (fun τ_3 H locs z1 hz hp hP hL hS => ?_))
    obtain ⟨hz1, h_4n, h_4a⟩ := hp
    have hz := hz.trans hz1
    have hTx := hTx.fr (τ := τ_3) (fun q h1 h2 => h_4a q (fun h => by have h3 := h.1; have h4 := h.2; omega))
    have hPa := hPa.fr (τ := τ_3) (fun q h1 h2 => h_4a q (fun h => by have h3 := h.1; have h4 := h.2; omega))
    have hVo := hVo.fr (τ := τ_3) (fun q h1 h2 => h_4a q (fun h => by have h3 := h.1; have h4 := h.2; omega))
    have hCh := hCh.fr (τ := τ_3) (fun q h1 h2 => h_4a q (fun h => by have h3 := h.1; have h4 := h.2; omega))
    have hTu := hTu.fr (τ := τ_3) (fun q h1 h2 => h_4a q (fun h => by have h3 := h.1; have h4 := h.2; omega))
    have hPl := hPl.fr (τ := τ_3) (fun q h1 h2 => h_4a q (fun h => by have h3 := h.1; have h4 := h.2; omega))
    have hSt := h_4n
    have hag := hag.tr h_4a (fun q h => .inl ⟨by have h3 := h.1; omega, by have h3 := h.2; omega⟩)
    refine lv_aload_n hx hb dX7_read_35 rfl (lv_at hl 1 rfl) ?_
    refine g_get (C := RX7) (T := TX7) (N := 7) hx hb hts hown hK hP ((h_4a _ (fun h => by have h3 := h.1; have h4 := h.2; omega)).trans ((ha_2 _ (fun h => Or.elim h (fun h3 => by have h4 := h3.1; have h5 := h3.2; omega) (fun h3 => by have h4 : b ≤ _ := h3; omega))).trans ((ha_1 _ (fun h => by have h3 := h.1; have h4 := h.2; omega)).trans ho0))) nX7_read_X7 rfl 1 (by decide) (by decide +kernel) rfl (v := .ref t) rfl dX7_read_36 ?_
    refine lv_aload_n hx hb dX7_read_39 rfl (lv_at hl 1 rfl) ?_
    refine g_get (C := RX7) (T := TX7) (N := 7) hx hb hts hown hK hP ((h_4a _ (fun h => by have h3 := h.1; have h4 := h.2; omega)).trans ((ha_2 _ (fun h => Or.elim h (fun h3 => by have h4 := h3.1; have h5 := h3.2; omega) (fun h3 => by have h4 : b ≤ _ := h3; omega))).trans ((ha_1 _ (fun h => by have h3 := h.1; have h4 := h.2; omega)).trans ho0))) nX7_read_X7 rfl 0 (by decide) (by decide +kernel) rfl (v := .ref x) rfl dX7_read_40 ?_
    refine g_runV (As := [.ref x]) (rest := []) (own := RX7) (C := RX3) (T := TX3) (N := 6) 1 hx hb hml hown hts hK hz hP hL hS hlo hl.1 (c_X3_writeTo l t x tf tn a_1 so_1 ld_1 ti_1 (clearS S) τ_3 z_2 hTx hSt (by omega) (by omega) (clearS_B _) (ff_ok c9 (by omega))) gX7_read_X3_writeTo rfl rfl rfl (by decide +kernel) ⟨Nat.le_of_ble_eq_true rfl, Nat.le_of_ble_eq_true rfl⟩ hTx.c0 rfl rfl rfl (Nat.le_of_ble_eq_true rfl) dX7_read_43 ⟨Nat.le_of_ble_eq_true rfl, Nat.le_of_ble_eq_true rfl⟩ (g_kxv0 (fun τ_5 H locs z1 hz hp hP hL hS => ?_))
    obtain ⟨hz1, hs_5, ⟨a_5, so_5, ld_5, ti_5, ht_5⟩, ha_5⟩ := hp
    have hz := hz.trans hz1
    have hPa := hPa.fr (τ := τ_5) (fun q h1 h2 => ha_5 q (fun h => Or.elim h (fun h3 => by have h4 := h3.1; have h5 := h3.2; omega) (fun h3 => by have h4 := h3.1; have h5 := h3.2; omega)))
    have hVo := hVo.fr (τ := τ_5) (fun q h1 h2 => ha_5 q (fun h => Or.elim h (fun h3 => by have h4 := h3.1; have h5 := h3.2; omega) (fun h3 => by have h4 := h3.1; have h5 := h3.2; omega)))
    have hCh := hCh.fr (τ := τ_5) (fun q h1 h2 => ha_5 q (fun h => Or.elim h (fun h3 => by have h4 := h3.1; have h5 := h3.2; omega) (fun h3 => by have h4 := h3.1; have h5 := h3.2; omega)))
    have hTu := hTu.fr (τ := τ_5) (fun q h1 h2 => ha_5 q (fun h => Or.elim h (fun h3 => by have h4 := h3.1; have h5 := h3.2; omega) (fun h3 => by have h4 := h3.1; have h5 := h3.2; omega)))
    have hPl := hPl.fr (τ := τ_5) (fun q h1 h2 => ha_5 q (fun h => Or.elim h (fun h3 => by have h4 := h3.1; have h5 := h3.2; omega) (fun h3 => by have h4 := h3.1; have h5 := h3.2; omega)))
    have hSt := hs_5
    have hTx := ht_5
    have hag := hag.tr ha_5 (fun q h => Or.elim h (fun h3 => .inl ⟨by have h4 := h3.1; omega, by have h4 := h3.2; omega⟩) (fun h3 => .inl ⟨by have h4 := h3.1; omega, by have h4 := h3.2; omega⟩))
    refine lv_aload_n hx hb dX7_read_46 rfl (lv_at hl 1 rfl) ?_
    refine g_get (C := RX7) (T := TX7) (N := 7) hx hb hts hown hK hP ((ha_5 _ (fun h => Or.elim h (fun h3 => by have h4 := h3.1; have h5 := h3.2; omega) (fun h3 => by have h4 := h3.1; have h5 := h3.2; omega))).trans ((h_4a _ (fun h => by have h3 := h.1; have h4 := h.2; omega)).trans ((ha_2 _ (fun h => Or.elim h (fun h3 => by have h4 := h3.1; have h5 := h3.2; omega) (fun h3 => by have h4 : b ≤ _ := h3; omega))).trans ((ha_1 _ (fun h => by have h3 := h.1; have h4 := h.2; omega)).trans ho0)))) nX7_read_X7 rfl 0 (by decide) (by decide +kernel) rfl (v := .ref x) rfl dX7_read_47 ?_
    refine g_get (C := RX4) (T := TX4) (N := 13) hx hb hts hown hK hP hSt.c0 nX7_read_X4 rfl 0 (by decide) (by decide +kernel) rfl (v := .int (nI (sB (wrF tf tn 60 0 (clearS S))))) rfl dX7_read_50 ?_
    refine W.widen (k := 17) (n := 789) (Nat.le_of_ble_eq_true rfl) (Nat.le_of_ble_eq_true rfl) ?_
    exact g_iret (z := z_2) hx hb hr hlk hz hP hL hS dX7_read_53 (gxi_i (wP_s (by unfold o_read; rw [if_pos (by first | exact c9 | exact nb c9 | exact Ne.symm c9 | exact fun q => q c9 | exact fun q => q c9.symm | omega)]) ⟨x, t, pa, sn, v, ch, tu, _, _, ⟨hx0, ht0, hpa0, hsn0, hv0, hch0, htu0, hob⟩, ((ha_5 _ (fun h => Or.elim h (fun h3 => by have h4 := h3.1; have h5 := h3.2; omega) (fun h3 => by have h4 := h3.1; have h5 := h3.2; omega))).trans ((h_4a _ (fun h => by have h3 := h.1; have h4 := h.2; omega)).trans ((ha_2 _ (fun h => Or.elim h (fun h3 => by have h4 := h3.1; have h5 := h3.2; omega) (fun h3 => by have h4 : b ≤ _ := h3; omega))).trans ((ha_1 _ (fun h => by have h3 := h.1; have h4 := h.2; omega)).trans ho0)))), hSt, ⟨_, _, _, _, hTx⟩, hPa, ((ha_5 _ (fun h => Or.elim h (fun h3 => by have h4 := h3.1; have h5 := h3.2; omega) (fun h3 => by have h4 := h3.1; have h5 := h3.2; omega))).trans ((h_4a _ (fun h => by have h3 := h.1; have h4 := h.2; omega)).trans ((ha_2 _ (fun h => Or.elim h (fun h3 => by have h4 := h3.1; have h5 := h3.2; omega) (fun h3 => by have h4 : b ≤ _ := h3; omega))).trans ((ha_1 _ (fun h => by have h3 := h.1; have h4 := h.2; omega)).trans hsn)))), ⟨_, _, _, _, hVo⟩, ⟨_, _, _, hCh⟩, ⟨_, hTu⟩, hPl, hg_2, hkp, htn, recP_le _⟩ hzl hzu hag))
  · refine lv_bipush (v := (-100)) hx hb dX7_read_12 (by decide) ?_
    refine lv_iload_n hx hb dX7_read_14 rfl (lv_at hl 0 rfl) ?_
    refine lv_isub hx hb dX7_read_15 ?_
    refine W.widen (k := 17) (n := 789) (Nat.le_of_ble_eq_true rfl) (Nat.le_of_ble_eq_true rfl) ?_
    exact g_iret (z := sz) hx hb hr hlk hz hP hL hS dX7_read_16 (gxi_i (wP_n (by unfold o_read; rw [if_neg (by first | exact c9 | exact nb c9 | exact Ne.symm c9 | exact fun q => q c9 | exact fun q => q c9.symm | omega)]) ⟨x, t, pa, sn, v, ch, tu, _, _, ⟨hx0, ht0, hpa0, hsn0, hv0, hch0, htu0, hob⟩, ((ha_1 _ (fun h => by have h3 := h.1; have h4 := h.2; omega)).trans ho0), hSt, ⟨_, _, _, _, hTx⟩, hPa, ((ha_1 _ (fun h => by have h3 := h.1; have h4 := h.2; omega)).trans hsn), ⟨_, _, _, _, hVo⟩, ⟨_, _, _, hCh⟩, ⟨_, hTu⟩, hPl, hg, hkp, htn, hP5⟩ (Nat.le_refl _) (by omega) hag))

theorem nX7_clearText_X3 : ∀ w ∈ wsX30, w ∈ wsX7_clearText := by decide +kernel
theorem nX7_clearText_X7 : ∀ w ∈ wsX70, w ∈ wsX7_clearText := by decide +kernel
set_option maxHeartbeats 4000000 in
set_option maxRecDepth 100000 in
theorem c_X7_clearText (l : Launch) (o b : Nat) (S : sS) (tf : Nat → Int32) (tn P : Nat) (C : Nat → sS) (kp : Nat → Bool) (σ : gS) (sz : Nat) (hW : Wo σ o b S tf tn P C kp sz) (hok : okS S) : gM l yX7_clearText wsX7_clearText ({ frames := 0, cells := 17, slots := 789, locals := 0 } : Room) 17 789 [.ref o] σ sz (gxi (fun r τ n => r = nI tn ∧ Wo τ o b S tf 0 P C kp n ∧ sz ≤ n ∧ n ≤ sz + 17 ∧ gAs (Zc o b) σ τ)) := by
  refine gM_of (cc := cX7_clearText) (maxL := 2) (ret := (some .int)) (by decide) rfl (Nat.le_of_ble_eq_true rfl) ?_
  intro D ka lo hL hlo p e s m below meth c hx hb hr hts hown hml hlk hnm hK H locs ls hz hP hS hl
  have hl : lv_has ls 2 [(0, .ref o)] := hl
  have hown : s.vm.findClass RX7 = some m.cls := hown
  obtain ⟨x, t, pa, sn, v, ch, tu, g, sg, ⟨hx0, ht0, hpa0, hsn0, hv0, hch0, htu0, hob⟩, ho0, hSt, ⟨ta, tso, tld, tti, hTx⟩, hPa, hsn, ⟨vd, vf, vb, vw, hVo⟩, ⟨ca, cb, cd, hCh⟩, ⟨lf, hTu⟩, hPl, hg, hkp, htn, hP5⟩ := hW
  obtain ⟨hB, hN, hKs, hRs⟩ := hok
  have hbz := hPl.1
  have hag : gAs (Zc o b) σ σ := gAs.rf
  refine lv_aload_n hx hb dX7_clearText_0 rfl (lv_at hl 0 rfl) ?_
  refine g_get (C := RX7) (T := TX7) (N := 7) hx hb hts hown hK hP ho0 nX7_clearText_X7 rfl 1 (by decide) (by decide +kernel) rfl (v := .ref t) rfl dX7_clearText_1 ?_
  refine g_get (C := RX3) (T := TX3) (N := 6) hx hb hts hown hK hP hTx.c0 nX7_clearText_X3 rfl 1 (by decide) (by decide +kernel) rfl (v := .int (nI tn)) rfl dX7_clearText_4 ?_
  refine lv_istore_n (lv' := [(1, .int (nI tn)), (0, .ref o)]) hx hb dX7_clearText_7 rfl hl (by decide) rfl (fun ls hl => ?_)
  refine lv_aload_n hx hb dX7_clearText_8 rfl (lv_at hl 1 rfl) ?_
  refine g_get (C := RX7) (T := TX7) (N := 7) hx hb hts hown hK hP ho0 nX7_clearText_X7 rfl 1 (by decide) (by decide +kernel) rfl (v := .ref t) rfl dX7_clearText_9 ?_
  refine lv_iconst (v := (nI 0)) hx hb dX7_clearText_12 (by decide) ?_
  refine g_put (C := RX3) (T := TX3) (N := 6) hx hb hts hown hK hP hL hS hTx.c0 nX7_clearText_X3 tyX3 tyX3_ok nmX3 rfl 1 (by decide) (by decide +kernel) rfl rfl (v := .int (nI 0)) rfl rfl (Nat.le_of_ble_eq_true rfl) dX7_clearText_13 (fun H locs hq hP hL hS => ?_)
  have hz := hq.trans hz
  obtain ⟨σ1, e1⟩ : ∃ υ0 : gS, υ0 = gup σ t (gO 3 [.ref (t + 1), .int (nI 0), .int (nI ta), .int tso, .int tld, .int tti]) := ⟨_, rfl⟩
  have hP : gH D ka σ1 H := by rw [e1]; exact hP
  have hL : gL lo σ1 := by rw [e1]; exact hL
  have hSt := hSt.fr (τ := σ1) (fun q h1 h2 => gup_eq e1 (by omega))
  have hPa := hPa.fr (τ := σ1) (fun q h1 h2 => gup_eq e1 (by omega))
  have hVo := hVo.fr (τ := σ1) (fun q h1 h2 => gup_eq e1 (by omega))
  have hCh := hCh.fr (τ := σ1) (fun q h1 h2 => gup_eq e1 (by omega))
  have hTu := hTu.fr (τ := σ1) (fun q h1 h2 => gup_eq e1 (by omega))
  have hPl := hPl.fr (τ := σ1) (fun q h1 h2 => gup_eq e1 (by omega))
  have hTx : TxAt σ1 t tf 0 ta tso tld tti := by rw [e1]; exact hTx.p1 0
  have hag := hag.upe e1 (.inl ⟨by omega, by omega⟩)
  refine lv_iload_n hx hb dX7_clearText_16 rfl (lv_at hl 0 rfl) ?_
  refine W.widen (k := 17) (n := 789) (Nat.le_of_ble_eq_true rfl) (Nat.le_of_ble_eq_true rfl) ?_
  exact g_iret (z := sz) hx hb hr hlk hz hP hL hS dX7_clearText_17 (gxi_i ⟨rfl, ⟨x, t, pa, sn, v, ch, tu, _, _, ⟨hx0, ht0, hpa0, hsn0, hv0, hch0, htu0, hob⟩, (gup_off e1 (by omega) ho0), hSt, ⟨_, _, _, _, hTx⟩, hPa, (gup_off e1 (by omega) hsn), ⟨_, _, _, _, hVo⟩, ⟨_, _, _, hCh⟩, ⟨_, hTu⟩, hPl, hg, hkp, by omega, hP5⟩, Nat.le_refl _, by omega, hag⟩)

theorem nX7_type_X3 : ∀ w ∈ wsX30, w ∈ wsX7_type := by decide +kernel
theorem nX7_type_X7 : ∀ w ∈ wsX70, w ∈ wsX7_type := by decide +kernel
set_option maxHeartbeats 4000000 in
set_option maxRecDepth 100000 in
theorem c_X7_type (l : Launch) (o b : Nat) (S : sS) (tf : Nat → Int32) (tn P : Nat) (C : Nat → sS) (kp : Nat → Bool) (a1 : Int32) (σ : gS) (sz : Nat) (hW : Wo σ o b S tf tn P C kp sz) (hok : okS S) : gM l yX7_type wsX7_type ({ frames := 2, cells := 17, slots := 789, locals := 43 } : Room) 17 789 [.ref o, .int a1] σ sz (gxi (fun r τ n => r = (if tn < 60 then nI (tn + 1) else -3) ∧ Wo τ o b S (if tn < 60 then upd tf tn a1 else tf) (if tn < 60 then tn + 1 else tn) P C kp n ∧ sz ≤ n ∧ n ≤ sz + 17 ∧ gAs (Zc o b) σ τ)) := by
  refine gM_of (cc := cX7_type) (maxL := 2) (ret := (some .int)) (by decide) rfl (Nat.le_of_ble_eq_true rfl) ?_
  intro D ka lo hL hlo p e s m below meth c hx hb hr hts hown hml hlk hnm hK H locs ls hz hP hS hl
  have hl : lv_has ls 2 [(0, .ref o), (1, .int a1)] := hl
  have hown : s.vm.findClass RX7 = some m.cls := hown
  obtain ⟨x, t, pa, sn, v, ch, tu, g, sg, ⟨hx0, ht0, hpa0, hsn0, hv0, hch0, htu0, hob⟩, ho0, hSt, ⟨ta, tso, tld, tti, hTx⟩, hPa, hsn, ⟨vd, vf, vb, vw, hVo⟩, ⟨ca, cb, cd, hCh⟩, ⟨lf, hTu⟩, hPl, hg, hkp, htn, hP5⟩ := hW
  obtain ⟨hB, hN, hKs, hRs⟩ := hok
  have hbz := hPl.1
  have hag : gAs (Zc o b) σ σ := gAs.rf
  refine lv_aload_n hx hb dX7_type_0 rfl (lv_at hl 0 rfl) ?_
  refine g_get (C := RX7) (T := TX7) (N := 7) hx hb hts hown hK hP ho0 nX7_type_X7 rfl 1 (by decide) (by decide +kernel) rfl (v := .ref t) rfl dX7_type_1 ?_
  refine lv_iload_n hx hb dX7_type_4 rfl (lv_at hl 1 rfl) ?_
  refine g_runV (As := [.int a1]) (rest := []) (own := RX7) (C := RX3) (T := TX3) (N := 6) 1 hx hb hml hown hts hK hz hP hL hS hlo hl.1 (c_X3_append l t tf tn ta tso tld tti a1 σ sz hTx (by omega)) gX7_type_X3_append rfl rfl rfl (by decide +kernel) ⟨Nat.le_of_ble_eq_true rfl, Nat.le_of_ble_eq_true rfl⟩ hTx.c0 rfl rfl rfl (Nat.le_of_ble_eq_true rfl) dX7_type_5 ⟨Nat.le_of_ble_eq_true rfl, Nat.le_of_ble_eq_true rfl⟩ (g_kxi0 (fun r_1 τ_1 H locs z1 hz hp hP hL hS => ?_))
  obtain ⟨hr_1, hz1, ht_1, ha_1⟩ := hp
  have hz := hz.trans hz1
  have hSt := hSt.fr (τ := τ_1) (fun q h1 h2 => ha_1 q (fun h => by have h3 := h.1; have h4 := h.2; omega))
  have hPa := hPa.fr (τ := τ_1) (fun q h1 h2 => ha_1 q (fun h => by have h3 := h.1; have h4 := h.2; omega))
  have hVo := hVo.fr (τ := τ_1) (fun q h1 h2 => ha_1 q (fun h => by have h3 := h.1; have h4 := h.2; omega))
  have hCh := hCh.fr (τ := τ_1) (fun q h1 h2 => ha_1 q (fun h => by have h3 := h.1; have h4 := h.2; omega))
  have hTu := hTu.fr (τ := τ_1) (fun q h1 h2 => ha_1 q (fun h => by have h3 := h.1; have h4 := h.2; omega))
  have hPl := hPl.fr (τ := τ_1) (fun q h1 h2 => ha_1 q (fun h => by have h3 := h.1; have h4 := h.2; omega))
  have hTx := ht_1
  have hag := hag.tr ha_1 (fun q h => .inl ⟨by have h3 := h.1; omega, by have h3 := h.2; omega⟩)
  subst hr_1
  refine g_ifb_eq (tgt := 21) hx hb dX7_type_8 (by decide) (fun c8 => ?_) (fun c8 => ?_)
  · refine lv_bipush (v := (-3)) hx hb dX7_type_21 (by decide) ?_
    refine W.widen (k := 17) (n := 789) (Nat.le_of_ble_eq_true rfl) (Nat.le_of_ble_eq_true rfl) ?_
    exact g_iret (z := sz) hx hb hr hlk hz hP hL hS dX7_type_23 (gxi_i ⟨by rw [if_neg (of_decide_eq_false c8)], ⟨x, t, pa, sn, v, ch, tu, _, _, ⟨hx0, ht0, hpa0, hsn0, hv0, hch0, htu0, hob⟩, ((ha_1 _ (fun h => by have h3 := h.1; have h4 := h.2; omega)).trans ho0), hSt, ⟨_, _, _, _, hTx⟩, hPa, ((ha_1 _ (fun h => by have h3 := h.1; have h4 := h.2; omega)).trans hsn), ⟨_, _, _, _, hVo⟩, ⟨_, _, _, hCh⟩, ⟨_, hTu⟩, hPl, hg, hkp, by split <;> omega, hP5⟩, Nat.le_refl _, by omega, hag⟩)
  · refine lv_aload_n hx hb dX7_type_11 rfl (lv_at hl 0 rfl) ?_
    refine g_get (C := RX7) (T := TX7) (N := 7) hx hb hts hown hK hP ((ha_1 _ (fun h => by have h3 := h.1; have h4 := h.2; omega)).trans ho0) nX7_type_X7 rfl 1 (by decide) (by decide +kernel) rfl (v := .ref t) rfl dX7_type_12 ?_
    refine g_get (C := RX3) (T := TX3) (N := 6) hx hb hts hown hK hP hTx.c0 nX7_type_X3 rfl 1 (by decide) (by decide +kernel) rfl (v := .int (nI (if tn < 60 then tn + 1 else tn))) rfl dX7_type_15 ?_
    refine lv_goto (tgt := 23) hx hb dX7_type_18 (by decide) ?_
    refine W.widen (k := 17) (n := 789) (Nat.le_of_ble_eq_true rfl) (Nat.le_of_ble_eq_true rfl) ?_
    exact g_iret (z := sz) hx hb hr hlk hz hP hL hS dX7_type_23 (gxi_i ⟨by rw [if_pos (of_decide_eq_true c8), if_pos (of_decide_eq_true c8)], ⟨x, t, pa, sn, v, ch, tu, _, _, ⟨hx0, ht0, hpa0, hsn0, hv0, hch0, htu0, hob⟩, ((ha_1 _ (fun h => by have h3 := h.1; have h4 := h.2; omega)).trans ho0), hSt, ⟨_, _, _, _, hTx⟩, hPa, ((ha_1 _ (fun h => by have h3 := h.1; have h4 := h.2; omega)).trans hsn), ⟨_, _, _, _, hVo⟩, ⟨_, _, _, hCh⟩, ⟨_, hTu⟩, hPl, hg, hkp, by split <;> omega, hP5⟩, Nat.le_refl _, by omega, hag⟩)

theorem nX7_undo_X1 : ∀ w ∈ wsX10, w ∈ wsX7_undo := by decide +kernel
theorem nX7_undo_X7 : ∀ w ∈ wsX70, w ∈ wsX7_undo := by decide +kernel
set_option maxHeartbeats 4000000 in
set_option maxRecDepth 100000 in
theorem c_X7_undo (l : Launch) (o b : Nat) (S : sS) (tf : Nat → Int32) (tn P : Nat) (C : Nat → sS) (kp : Nat → Bool) (σ : gS) (sz : Nat) (hW : Wo σ o b S tf tn P C kp sz) (hok : okS S) (hokC : ∀ k : Nat, k < P → okS (C k)) : gM l yX7_undo wsX7_undo ({ frames := 4, cells := 17, slots := 789, locals := 87 } : Room) 17 789 [.ref o] σ sz (gxi (fun r τ n => r = (if P = 0 then -5 else nI (P - 1)) ∧ Wo τ o b (if P = 0 then S else C (P - 1)) tf tn (P - 1) C kp n ∧ sz ≤ n ∧ n ≤ sz + 17 ∧ gAs (Zc o b) σ τ)) := by
  refine gM_of (cc := cX7_undo) (maxL := 1) (ret := (some .int)) (by decide) rfl (Nat.le_of_ble_eq_true rfl) ?_
  intro D ka lo hL hlo p e s m below meth c hx hb hr hts hown hml hlk hnm hK H locs ls hz hP hS hl
  have hl : lv_has ls 1 [(0, .ref o)] := hl
  have hown : s.vm.findClass RX7 = some m.cls := hown
  obtain ⟨x, t, pa, sn, v, ch, tu, g, sg, ⟨hx0, ht0, hpa0, hsn0, hv0, hch0, htu0, hob⟩, ho0, hSt, ⟨ta, tso, tld, tti, hTx⟩, hPa, hsn, ⟨vd, vf, vb, vw, hVo⟩, ⟨ca, cb, cd, hCh⟩, ⟨lf, hTu⟩, hPl, hg, hkp, htn, hP5⟩ := hW
  obtain ⟨hB, hN, hKs, hRs⟩ := hok
  have hbz := hPl.1
  have hag : gAs (Zc o b) σ σ := gAs.rf
  refine lv_aload_n hx hb dX7_undo_0 rfl (lv_at hl 0 rfl) ?_
  refine g_get (C := RX7) (T := TX7) (N := 7) hx hb hts hown hK hP ho0 nX7_undo_X7 rfl 2 (by decide) (by decide +kernel) rfl (v := .ref pa) rfl dX7_undo_1 ?_
  refine g_get (C := RX1) (T := TX1) (N := 2) hx hb hts hown hK hP hPa.c0 nX7_undo_X1 rfl 1 (by decide) (by decide +kernel) rfl (v := .int (nI P)) rfl dX7_undo_4 ?_
  refine g_if_ne (tgt := 13) hx hb (by omega) dX7_undo_7 (by decide) (fun c7 => ?_) (fun c7 => ?_)
  · refine lv_aload_n hx hb dX7_undo_13 rfl (lv_at hl 0 rfl) ?_
    refine g_get (C := RX7) (T := TX7) (N := 7) hx hb hts hown hK hP ho0 nX7_undo_X7 rfl 2 (by decide) (by decide +kernel) rfl (v := .ref pa) rfl dX7_undo_14 ?_
    refine lv_aload_n hx hb dX7_undo_17 rfl (lv_at hl 0 rfl) ?_
    refine g_get (C := RX7) (T := TX7) (N := 7) hx hb hts hown hK hP ho0 nX7_undo_X7 rfl 0 (by decide) (by decide +kernel) rfl (v := .ref x) rfl dX7_undo_18 ?_
    refine g_runV (As := [.ref x]) (rest := []) (own := RX7) (C := RX1) (T := TX1) (N := 2) 1 hx hb hml hown hts hK hz hP hL hS hlo hl.1 (c_X1_takeBack l pa b x P g sg C S σ sz hPa hPl (by omega) hSt (by omega) (by omega) hP5 hg (by omega) (hokC _ (by omega))) gX7_undo_X1_takeBack rfl rfl rfl (by decide +kernel) ⟨Nat.le_of_ble_eq_true rfl, Nat.le_of_ble_eq_true rfl⟩ hPa.c0 rfl rfl rfl (Nat.le_of_ble_eq_true rfl) dX7_undo_21 ⟨Nat.le_of_ble_eq_true rfl, Nat.le_of_ble_eq_true rfl⟩ (g_kxv0 (fun τ_1 H locs z1 hz hp hP hL hS => ?_))
    obtain ⟨hz1, hs_1, hp_1, hl_1, ha_1⟩ := hp
    have hz := hz.trans hz1
    have hTx := hTx.fr (τ := τ_1) (fun q h1 h2 => ha_1 q (fun h => Or.elim h (fun h3 => by have h4 := h3.1; have h5 := h3.2; omega) (fun h3 => by have h4 := h3.1; have h5 := h3.2; omega)))
    have hVo := hVo.fr (τ := τ_1) (fun q h1 h2 => ha_1 q (fun h => Or.elim h (fun h3 => by have h4 := h3.1; have h5 := h3.2; omega) (fun h3 => by have h4 := h3.1; have h5 := h3.2; omega)))
    have hCh := hCh.fr (τ := τ_1) (fun q h1 h2 => ha_1 q (fun h => Or.elim h (fun h3 => by have h4 := h3.1; have h5 := h3.2; omega) (fun h3 => by have h4 := h3.1; have h5 := h3.2; omega)))
    have hTu := hTu.fr (τ := τ_1) (fun q h1 h2 => ha_1 q (fun h => Or.elim h (fun h3 => by have h4 := h3.1; have h5 := h3.2; omega) (fun h3 => by have h4 := h3.1; have h5 := h3.2; omega)))
    have hSt := hs_1
    have hPa := hp_1
    have hPl := hl_1
    have hag := hag.tr ha_1 (fun q h => Or.elim h (fun h3 => .inl ⟨by have h4 := h3.1; omega, by have h4 := h3.2; omega⟩) (fun h3 => .inl ⟨by have h4 := h3.1; omega, by have h4 := h3.2; omega⟩))
    refine lv_aload_n hx hb dX7_undo_24 rfl (lv_at hl 0 rfl) ?_
    refine g_get (C := RX7) (T := TX7) (N := 7) hx hb hts hown hK hP ((ha_1 _ (fun h => Or.elim h (fun h3 => by have h4 := h3.1; have h5 := h3.2; omega) (fun h3 => by have h4 := h3.1; have h5 := h3.2; omega))).trans ho0) nX7_undo_X7 rfl 2 (by decide) (by decide +kernel) rfl (v := .ref pa) rfl dX7_undo_25 ?_
    refine g_get (C := RX1) (T := TX1) (N := 2) hx hb hts hown hK hP hPa.c0 nX7_undo_X1 rfl 1 (by decide) (by decide +kernel) rfl (v := .int (nI (P - 1))) rfl dX7_undo_28 ?_
    refine W.widen (k := 17) (n := 789) (Nat.le_of_ble_eq_true rfl) (Nat.le_of_ble_eq_true rfl) ?_
    exact g_iret (z := sz) hx hb hr hlk hz hP hL hS dX7_undo_31 (gxi_i ⟨by rw [if_neg (by omega)], (by rw [if_neg (by omega)]; exact ⟨x, t, pa, sn, v, ch, tu, _, _, ⟨hx0, ht0, hpa0, hsn0, hv0, hch0, htu0, hob⟩, ((ha_1 _ (fun h => Or.elim h (fun h3 => by have h4 := h3.1; have h5 := h3.2; omega) (fun h3 => by have h4 := h3.1; have h5 := h3.2; omega))).trans ho0), hSt, ⟨_, _, _, _, hTx⟩, hPa, ((ha_1 _ (fun h => Or.elim h (fun h3 => by have h4 := h3.1; have h5 := h3.2; omega) (fun h3 => by have h4 := h3.1; have h5 := h3.2; omega))).trans hsn), ⟨_, _, _, _, hVo⟩, ⟨_, _, _, hCh⟩, ⟨_, hTu⟩, hPl, (fun k hk => hg k (by omega)), hkp, htn, by omega⟩), Nat.le_refl _, by omega, hag⟩)
  · refine lv_bipush (v := (-5)) hx hb dX7_undo_10 (by decide) ?_
    refine W.widen (k := 17) (n := 789) (Nat.le_of_ble_eq_true rfl) (Nat.le_of_ble_eq_true rfl) ?_
    exact g_iret (z := sz) hx hb hr hlk hz hP hL hS dX7_undo_12 (gxi_i ⟨by rw [if_pos (by omega)], (by rw [if_pos (by omega), show P - 1 = P by omega]; exact ⟨x, t, pa, sn, v, ch, tu, _, _, ⟨hx0, ht0, hpa0, hsn0, hv0, hch0, htu0, hob⟩, ho0, hSt, ⟨_, _, _, _, hTx⟩, hPa, hsn, ⟨_, _, _, _, hVo⟩, ⟨_, _, _, hCh⟩, ⟨_, hTu⟩, hPl, hg, hkp, htn, hP5⟩), Nat.le_refl _, by omega, hag⟩)
