/-! kept states; loudness of many beats -/
def upB (f : Nat → Bool) (k : Nat) (v : Bool) : Nat → Bool := fun j => if j = k then v else f j
theorem inN_2 {a : Int32} {n : Nat} (h : ¬ a < 0) (h2 : a < nI n) : inN a n = true := inN_t h (Int32.not_le.mpr h2)
theorem inN_f3 {a : Int32} {n : Nat} (h : ¬ a < nI n) : inN a n = false := inN_f2 (Int32.not_lt.mp h)
def keepC (C : Nat → sS) (S : sS) (a : Int32) : Nat → sS := if inN a 2 = true then uS C (tk a + 5) S else C
def keepK (kp : Nat → Bool) (a : Int32) : Nat → Bool := if inN a 2 = true then upB kp (tk a) true else kp
theorem recS_k {P : Nat} (C : Nat → sS) (S : sS) {k : Nat} (h : 5 ≤ k) : recS C P S k = C k := by
  rw [recS]
  by_cases c : P < 5
  · rw [if_pos c, uS_n (by omega)]
  · rw [if_neg c, uS_n (by omega), rot_p, rotp_big (by omega)]
def o_restore (S : sS) (C : Nat → sS) (kp : Nat → Bool) (a1 : Int32) : Int32 × Option sS := if inN a1 2 = true then (if kp (tk a1) = true then (nI (sB (C (tk a1 + 5))), some (C (tk a1 + 5))) else (-5, none)) else (-1, none)
def filF (f : Nat → Int32) (a k : Nat) (v : Int32) : Nat → Int32 := fun j => if a ≤ j ∧ j < k then v else f j
theorem filF_0 (f : Nat → Int32) (a : Nat) (v : Int32) : filF f a a v = f := by
  funext j
  simp only [filF]
  rw [if_neg (by omega)]
theorem filF_s {f : Nat → Int32} {a k : Nat} {v : Int32} (h : a ≤ k) : upd (filF f a k v) k v = filF f a (k + 1) v := by
  funext j
  simp only [filF, upd]
  by_cases c : j = k
  · rw [if_pos c, if_pos (by omega)]
  · rw [if_neg c]
    by_cases c2 : a ≤ j ∧ j < k
    · rw [if_pos c2, if_pos (by omega)]
    · rw [if_neg c2, if_neg (by omega)]
def louS (S : sS) (a k : Nat) (v : Int32) : sS := sRow S 1 (filF (S 1) a k v)
theorem louS_0 (S : sS) (a : Nat) (v : Int32) : louS S a a v = S := by
  funext j
  simp only [louS, filF_0, sRow]
  split
  · subst_vars; rfl
  · rfl
theorem louS_s {S : sS} {a k : Nat} {v : Int32} (h : a ≤ k) : sRow (louS S a k v) 1 (upd (louS S a k v 1) k v) = louS S a (k + 1) v := by
  have e : louS S a k v 1 = filF (S 1) a k v := sRow_s _ _ _
  rw [e, filF_s h]
  funext j
  simp only [louS, sRow]
  split <;> rfl
/-- the sounding ones of n beats from a on -/
def sndN (S : sS) (a : Nat) : Nat → Nat
  | 0 => 0
  | n + 1 => sndN S a n + (if restB S (a + n) = true then 0 else 1)
theorem sndN_le (S : sS) (a : Nat) : ∀ n, sndN S a n ≤ n
  | 0 => Nat.le_refl 0
  | n + 1 => by
    have := sndN_le S a n
    rw [sndN]
    split <;> omega
theorem sndN_t {S : sS} {a n : Nat} (h : restB S (a + n) = true) : sndN S a (n + 1) = sndN S a n := by rw [sndN, if_pos h, Nat.add_zero]
theorem sndN_f {S : sS} {a n : Nat} (h : restB S (a + n) = false) : sndN S a (n + 1) = sndN S a n + 1 := by rw [sndN, if_neg (by rw [h]; decide)]
def o_setLoudness (S : sS) (a1 a2 a3 : Int32) : Int32 × Option sS := if inN a1 (sB S) = true then (if inN a2 (sB S) = true then (if tk a1 ≤ tk a2 then (if inB a3 (nI 1) (nI 5) = true then (nI (sndN S (tk a1) (tk a2 + 1 - tk a1)), some (louS S (tk a1) (tk a2 + 1) a3)) else (-2, none)) else (-2, none)) else (-1, none)) else (-1, none)
theorem nX7_keep_X4 : ∀ w ∈ wsX40, w ∈ wsX7_keep := by decide +kernel
theorem nX7_keep_X7 : ∀ w ∈ wsX70, w ∈ wsX7_keep := by decide +kernel
set_option maxHeartbeats 4000000 in
set_option maxRecDepth 100000 in
theorem c_X7_keep (l : Launch) (o b : Nat) (S : sS) (tf : Nat → Int32) (tn P : Nat) (C : Nat → sS) (kp : Nat → Bool) (a1 : Int32) (σ : gS) (sz : Nat) (hW : Wo σ o b S tf tn P C kp sz) (hok : okS S) : gM l yX7_keep wsX7_keep ({ frames := 3, cells := 17, slots := 789, locals := 64 } : Room) 17 789 [.ref o, .int a1] σ sz (gxi (fun r τ n => r = (if inN a1 2 = true then nI (sB S) else -1) ∧ Wo τ o b S tf tn P (keepC C S a1) (keepK kp a1) n ∧ sz ≤ n ∧ n ≤ sz + 17 ∧ gAs (Zc o b) σ τ)) := by
  refine gM_of (cc := cX7_keep) (maxL := 3) (ret := (some .int)) (by decide) rfl (Nat.le_of_ble_eq_true rfl) ?_
  intro D ka lo hL hlo p e s m below meth c hx hb hr hts hown hml hlk hnm hK H locs ls hz hP hS hl
  have hl : lv_has ls 3 [(0, .ref o), (1, .int a1)] := hl
  have hown : s.vm.findClass RX7 = some m.cls := hown
  obtain ⟨x, t, pa, sn, v, ch, tu, g, sg, ⟨hx0, ht0, hpa0, hsn0, hv0, hch0, htu0, hob⟩, ho0, hSt, ⟨ta, tso, tld, tti, hTx⟩, hPa, hsn, ⟨vd, vf, vb, vw, hVo⟩, ⟨ca, cb, cd, hCh⟩, ⟨lf, hTu⟩, hPl, hg, hkp, htn, hP5⟩ := hW
  obtain ⟨hB, hN, hKs, hRs⟩ := hok
  have hbz := hPl.1
  have hag : gAs (Zc o b) σ σ := gAs.rf
  refine lv_iload_n hx hb dX7_keep_0 rfl (lv_at hl 1 rfl) ?_
  refine lv_if_lt (tgt := 13) hx hb dX7_keep_1 (by decide) (fun c1 => ?_) (fun c1 => ?_)
  · refine lv_iconst (v := (-1)) hx hb dX7_keep_13 (by decide) ?_
    refine W.widen (k := 17) (n := 789) (Nat.le_of_ble_eq_true rfl) (Nat.le_of_ble_eq_true rfl) ?_
    exact g_iret (z := sz) hx hb hr hlk hz hP hL hS dX7_keep_14 (gxi_i ⟨by rw [if_neg (nb (inN_f1 c1))], (by rw [keepC, keepK, if_neg (nb (inN_f1 c1)), if_neg (nb (inN_f1 c1))]; exact ⟨x, t, pa, sn, v, ch, tu, _, _, ⟨hx0, ht0, hpa0, hsn0, hv0, hch0, htu0, hob⟩, ho0, hSt, ⟨_, _, _, _, hTx⟩, hPa, hsn, ⟨_, _, _, _, hVo⟩, ⟨_, _, _, hCh⟩, ⟨_, hTu⟩, hPl, hg, hkp, htn, hP5⟩), Nat.le_refl _, by omega, hag⟩)
  · refine lv_iload_n hx hb dX7_keep_4 rfl (lv_at hl 1 rfl) ?_
    refine lv_aload_n hx hb dX7_keep_5 rfl (lv_at hl 0 rfl) ?_
    refine g_get (C := RX7) (T := TX7) (N := 7) hx hb hts hown hK hP ho0 nX7_keep_X7 rfl 3 (by decide) (by decide +kernel) rfl (v := .ref sn) rfl dX7_keep_6 ?_
    refine g_aalen hx hb hK hP hsn dX7_keep_9 ?_
    refine lv_icmp_lt (tgt := 15) hx hb dX7_keep_10 (by decide) (fun c10 => ?_) (fun c10 => ?_)
    · have hin := inN_2 c1 c10
      obtain ⟨ha1e, ha1l⟩ := tk_in hin (by omega)
      refine lv_aload_n hx hb dX7_keep_15 rfl (lv_at hl 0 rfl) ?_
      refine g_get (C := RX7) (T := TX7) (N := 7) hx hb hts hown hK hP ho0 nX7_keep_X7 rfl 3 (by decide) (by decide +kernel) rfl (v := .ref sn) rfl dX7_keep_16 ?_
      refine lv_iload_n hx hb dX7_keep_19 rfl (lv_at hl 1 rfl) ?_
      refine g_top (y := (nI (tk a1))) ha1e ?_
      refine g_aald hx hb hK hP hsn (i := nI (tk a1)) (vp_in_nI (by omega) (by omega)) dX7_keep_20 ?_
      rw [nI_clamp (n := tk a1) (by omega)]
      rcases hy_1 : sg (tk a1) with _ | y_1
      · skip
        refine lv_astore_nN (lv' := [(2, .null), (0, .ref o), (1, .int a1)]) hx hb dX7_keep_21 rfl hl (by decide) rfl (fun ls hl => ?_)
        refine lv_aload_nN hx hb dX7_keep_22 rfl (lv_at hl 0 rfl) ?_
        refine lv_ifnonnullN hx hb dX7_keep_23 ?_
        refine g_new (C := RX4) (T := TX4) (N := 13) (ci := 4) (fs := [.int (0), .int (0), .int (0), .int (0), .int (0), .null, .null, .null, .null, .null, .null, .null, .null]) hx hb hts hown hK hz hP hL hS hlo nX7_keep_X4 tyX4 tyX4_ok rfl (by decide +kernel) (by decide +kernel) (by decide +kernel) rfl (Nat.le_of_ble_eq_true rfl) (Nat.le_of_ble_eq_true rfl) dX7_keep_26 (fun H hz hP hL hS => ?_)
        have hlo : lo ≤ sz + 1 := Nat.le_succ_of_le hlo
        obtain ⟨σ2, e2⟩ : ∃ υ0 : gS, υ0 = gup σ sz (gO 4 [.int (0), .int (0), .int (0), .int (0), .int (0), .null, .null, .null, .null, .null, .null, .null, .null]) := ⟨_, rfl⟩
        have hP : gH D ka σ2 H := by rw [e2]; exact hP
        have hL : gL lo σ2 := by rw [e2]; exact hL
        have hSt := hSt.fr (τ := σ2) (fun q h1 h2 => gup_eq e2 (by omega))
        have hTx := hTx.fr (τ := σ2) (fun q h1 h2 => gup_eq e2 (by omega))
        have hPa := hPa.fr (τ := σ2) (fun q h1 h2 => gup_eq e2 (by omega))
        have hVo := hVo.fr (τ := σ2) (fun q h1 h2 => gup_eq e2 (by omega))
        have hCh := hCh.fr (τ := σ2) (fun q h1 h2 => gup_eq e2 (by omega))
        have hTu := hTu.fr (τ := σ2) (fun q h1 h2 => gup_eq e2 (by omega))
        have hPl := hPl.fr (τ := σ2) (fun q h1 h2 => gup_eq e2 (by omega))
        have hag := hag.upe e2 (.inr (by omega))
        refine lv_dup hx hb dX7_keep_29 rfl ?_
        refine g_runI (b := sz) (As := []) (rest := [.ref sz]) (own := RX7) 0 hx hb hml hown hts hK hz hP hL hS hlo hl.1 (c_X4_init l sz σ2 (gup_here e2)) gX7_keep_X4_init rfl rfl rfl (by decide +kernel) (by decide +kernel) (by decide +kernel) rfl (by decide +kernel) ⟨Nat.le_of_ble_eq_true rfl, Nat.le_of_ble_eq_true rfl⟩ rfl rfl (Nat.le_of_ble_eq_true rfl) dX7_keep_30 ⟨Nat.le_of_ble_eq_true rfl, Nat.le_of_ble_eq_true rfl⟩ (g_kxv (fun τ_3 H locs z1 hz hp hP hL hS => ?_))
        obtain ⟨hz1, h_4n, h_4a⟩ := hp
        have hz := hz.trans hz1
        have hSt := hSt.fr (τ := τ_3) (fun q h1 h2 => h_4a q (fun h => by have h3 := h.1; have h4 := h.2; omega))
        have hTx := hTx.fr (τ := τ_3) (fun q h1 h2 => h_4a q (fun h => by have h3 := h.1; have h4 := h.2; omega))
        have hPa := hPa.fr (τ := τ_3) (fun q h1 h2 => h_4a q (fun h => by have h3 := h.1; have h4 := h.2; omega))
        have hVo := hVo.fr (τ := τ_3) (fun q h1 h2 => h_4a q (fun h => by have h3 := h.1; have h4 := h.2; omega))
        have hCh := hCh.fr (τ := τ_3) (fun q h1 h2 => h_4a q (fun h => by have h3 := h.1; have h4 := h.2; omega))
        have hTu := hTu.fr (τ := τ_3) (fun q h1 h2 => h_4a q (fun h => by have h3 := h.1; have h4 := h.2; omega))
        have hPl := hPl.fr (τ := τ_3) (fun q h1 h2 => h_4a q (fun h => by have h3 := h.1; have h4 := h.2; omega))
        have hSsz := h_4n
        have hag := hag.tr h_4a (fun q h => .inr (by have h3 := h.1; omega))
        have hlo : lo ≤ (sz + 17) := by omega
        refine lv_astore_n (lv' := [(2, .ref sz), (0, .ref o), (1, .int a1)]) hx hb dX7_keep_33 rfl hl (by decide) rfl (fun ls hl => ?_)
        refine lv_aload_n hx hb dX7_keep_34 rfl (lv_at hl 1 rfl) ?_
        refine g_get (C := RX7) (T := TX7) (N := 7) hx hb hts hown hK hP ((h_4a _ (fun h => by have h3 := h.1; have h4 := h.2; omega)).trans (gup_off e2 (by omega) ho0)) nX7_keep_X7 rfl 3 (by decide) (by decide +kernel) rfl (v := .ref sn) rfl dX7_keep_35 ?_
        refine lv_iload_n hx hb dX7_keep_38 rfl (lv_at hl 2 rfl) ?_
        refine g_top (y := (nI (tk a1))) ha1e ?_
        refine lv_aload_n hx hb dX7_keep_39 rfl (lv_at hl 0 rfl) ?_
        refine g_aast hx hb hK hP hL hS ((h_4a _ (fun h => by have h3 := h.1; have h4 := h.2; omega)).trans (gup_off e2 (by omega) hsn)) (i := nI (tk a1)) hSsz.c0 (vp_in_nI (by omega) (by omega)) dX7_keep_40 (fun H locs hq hP hL hS => ?_)
        rw [nI_clamp (n := tk a1) (by omega)] at hP hL
        have hz := hq.trans hz
        obtain ⟨σ5, e5⟩ : ∃ υ0 : gS, υ0 = gup τ_3 sn (gR 2 (va_up sg (tk a1) (some sz))) := ⟨_, rfl⟩
        have hP : gH D ka σ5 H := by rw [e5]; exact hP
        have hL : gL lo σ5 := by rw [e5]; exact hL
        have hSt := hSt.fr (τ := σ5) (fun q h1 h2 => gup_eq e5 (by omega))
        have hTx := hTx.fr (τ := σ5) (fun q h1 h2 => gup_eq e5 (by omega))
        have hPa := hPa.fr (τ := σ5) (fun q h1 h2 => gup_eq e5 (by omega))
        have hVo := hVo.fr (τ := σ5) (fun q h1 h2 => gup_eq e5 (by omega))
        have hCh := hCh.fr (τ := σ5) (fun q h1 h2 => gup_eq e5 (by omega))
        have hTu := hTu.fr (τ := σ5) (fun q h1 h2 => gup_eq e5 (by omega))
        have hPl := hPl.fr (τ := σ5) (fun q h1 h2 => gup_eq e5 (by omega))
        have hSsz := hSsz.fr (τ := σ5) (fun q h1 h2 => gup_eq e5 (by omega))
        have hag := hag.upe e5 (.inl ⟨by omega, by omega⟩)
        refine lv_aload_n hx hb dX7_keep_41 rfl (lv_at hl 0 rfl) ?_
        refine lv_aload_n hx hb dX7_keep_42 rfl (lv_at hl 1 rfl) ?_
        refine g_get (C := RX7) (T := TX7) (N := 7) hx hb hts hown hK hP (gup_off e5 (by omega) ((h_4a _ (fun h => by have h3 := h.1; have h4 := h.2; omega)).trans (gup_off e2 (by omega) ho0))) nX7_keep_X7 rfl 0 (by decide) (by decide +kernel) rfl (v := .ref x) rfl dX7_keep_43 ?_
        refine g_runV (As := [.ref x]) (rest := []) (own := RX7) (C := RX4) (T := TX4) (N := 13) 1 hx hb hml hown hts hK hz hP hL hS hlo hl.1 (c_X4_copyFrom l sz x s0S S σ5 ((sz + 17)) hSsz hSt (by omega) (by omega) (by omega) (by omega) (by omega)) gX7_keep_X4_copyFrom rfl rfl rfl (by decide +kernel) ⟨Nat.le_of_ble_eq_true rfl, Nat.le_of_ble_eq_true rfl⟩ hSsz.c0 rfl rfl rfl (Nat.le_of_ble_eq_true rfl) dX7_keep_46 ⟨Nat.le_of_ble_eq_true rfl, Nat.le_of_ble_eq_true rfl⟩ (g_kxv0 (fun τ_6 H locs z1 hz hp hP hL hS => ?_))
        obtain ⟨hz1, h_7n, h_7a⟩ := hp
        have hz := hz.trans hz1
        have hSt := hSt.fr (τ := τ_6) (fun q h1 h2 => h_7a q (fun h => by have h3 := h.1; have h4 := h.2; omega))
        have hTx := hTx.fr (τ := τ_6) (fun q h1 h2 => h_7a q (fun h => by have h3 := h.1; have h4 := h.2; omega))
        have hPa := hPa.fr (τ := τ_6) (fun q h1 h2 => h_7a q (fun h => by have h3 := h.1; have h4 := h.2; omega))
        have hVo := hVo.fr (τ := τ_6) (fun q h1 h2 => h_7a q (fun h => by have h3 := h.1; have h4 := h.2; omega))
        have hCh := hCh.fr (τ := τ_6) (fun q h1 h2 => h_7a q (fun h => by have h3 := h.1; have h4 := h.2; omega))
        have hTu := hTu.fr (τ := τ_6) (fun q h1 h2 => h_7a q (fun h => by have h3 := h.1; have h4 := h.2; omega))
        have hPl := hPl.fr (τ := τ_6) (fun q h1 h2 => h_7a q (fun h => by have h3 := h.1; have h4 := h.2; omega))
        have hSsz := h_7n
        have hag := hag.tr h_7a (fun q h => .inr (by have h3 := h.1; omega))
        have hPl := hPl.news (k := tk a1) (by omega) hSsz
        refine lv_aload_n hx hb dX7_keep_49 rfl (lv_at hl 1 rfl) ?_
        refine g_get (C := RX7) (T := TX7) (N := 7) hx hb hts hown hK hP ((h_7a _ (fun h => by have h3 := h.1; have h4 := h.2; omega)).trans (gup_off e5 (by omega) ((h_4a _ (fun h => by have h3 := h.1; have h4 := h.2; omega)).trans (gup_off e2 (by omega) ho0)))) nX7_keep_X7 rfl 0 (by decide) (by decide +kernel) rfl (v := .ref x) rfl dX7_keep_50 ?_
        refine g_get (C := RX4) (T := TX4) (N := 13) hx hb hts hown hK hP hSt.c0 nX7_keep_X4 rfl 0 (by decide) (by decide +kernel) rfl (v := .int (nI (sB S))) rfl dX7_keep_53 ?_
        refine W.widen (k := 17) (n := 789) (Nat.le_of_ble_eq_true rfl) (Nat.le_of_ble_eq_true rfl) ?_
        exact g_iret (z := (sz + 17)) hx hb hr hlk hz hP hL hS dX7_keep_56 (gxi_i ⟨by rw [if_pos hin], (by rw [keepC, keepK, if_pos hin, if_pos hin]; exact ⟨x, t, pa, sn, v, ch, tu, _, _, ⟨hx0, ht0, hpa0, hsn0, hv0, hch0, htu0, hob⟩, ((h_7a _ (fun h => by have h3 := h.1; have h4 := h.2; omega)).trans (gup_off e5 (by omega) ((h_4a _ (fun h => by have h3 := h.1; have h4 := h.2; omega)).trans (gup_off e2 (by omega) ho0)))), hSt, ⟨_, _, _, _, hTx⟩, hPa, ((h_7a _ (fun h => by have h3 := h.1; have h4 := h.2; omega)).trans (gup_here e5)), ⟨_, _, _, _, hVo⟩, ⟨_, _, _, hCh⟩, ⟨_, hTu⟩, hPl, hg, (fun k hk => by by_cases c : k = tk a1; exact (by rw [c, va_up_s]; exact if_pos rfl); exact (by rw [va_up_n c, ← hkp k hk]; exact if_neg c)), htn, hP5⟩), by omega, Nat.le_refl _, hag⟩)
      · skip
        obtain ⟨y_11, y_12, hSy_1⟩ := hPl.s (by omega) hy_1
        refine lv_astore_n (lv' := [(2, .ref y_1), (0, .ref o), (1, .int a1)]) hx hb dX7_keep_21 rfl hl (by decide) rfl (fun ls hl => ?_)
        refine lv_aload_n hx hb dX7_keep_22 rfl (lv_at hl 0 rfl) ?_
        refine lv_ifnonnull (tgt := 41) hx hb dX7_keep_23 (by decide) ?_
        refine lv_aload_n hx hb dX7_keep_41 rfl (lv_at hl 0 rfl) ?_
        refine lv_aload_n hx hb dX7_keep_42 rfl (lv_at hl 1 rfl) ?_
        refine g_get (C := RX7) (T := TX7) (N := 7) hx hb hts hown hK hP ho0 nX7_keep_X7 rfl 0 (by decide) (by decide +kernel) rfl (v := .ref x) rfl dX7_keep_43 ?_
        refine g_runV (As := [.ref x]) (rest := []) (own := RX7) (C := RX4) (T := TX4) (N := 13) 1 hx hb hml hown hts hK hz hP hL hS hlo hl.1 (c_X4_copyFrom l y_1 x (C (tk a1 + 5)) S σ sz hSy_1 hSt (by omega) (by omega) (by omega) (by omega) (by omega)) gX7_keep_X4_copyFrom rfl rfl rfl (by decide +kernel) ⟨Nat.le_of_ble_eq_true rfl, Nat.le_of_ble_eq_true rfl⟩ hSy_1.c0 rfl rfl rfl (Nat.le_of_ble_eq_true rfl) dX7_keep_46 ⟨Nat.le_of_ble_eq_true rfl, Nat.le_of_ble_eq_true rfl⟩ (g_kxv0 (fun τ_8 H locs z1 hz hp hP hL hS => ?_))
        obtain ⟨hz1, h_9n, h_9a⟩ := hp
        have hz := hz.trans hz1
        have hSt := hSt.fr (τ := τ_8) (fun q h1 h2 => h_9a q (fun h => by have h3 := h.1; have h4 := h.2; omega))
        have hTx := hTx.fr (τ := τ_8) (fun q h1 h2 => h_9a q (fun h => by have h3 := h.1; have h4 := h.2; omega))
        have hPa := hPa.fr (τ := τ_8) (fun q h1 h2 => h_9a q (fun h => by have h3 := h.1; have h4 := h.2; omega))
        have hVo := hVo.fr (τ := τ_8) (fun q h1 h2 => h_9a q (fun h => by have h3 := h.1; have h4 := h.2; omega))
        have hCh := hCh.fr (τ := τ_8) (fun q h1 h2 => h_9a q (fun h => by have h3 := h.1; have h4 := h.2; omega))
        have hTu := hTu.fr (τ := τ_8) (fun q h1 h2 => h_9a q (fun h => by have h3 := h.1; have h4 := h.2; omega))
        have hSy_1 := h_9n
        have hag := hag.tr h_9a (fun q h => .inr (by have h3 := h.1; omega))
        have hPl := hPl.set (k := tk a1 + 5) (by omega) (by rw [pk_s]; exact hy_1) hSy_1 h_9a
        refine lv_aload_n hx hb dX7_keep_49 rfl (lv_at hl 1 rfl) ?_
        refine g_get (C := RX7) (T := TX7) (N := 7) hx hb hts hown hK hP ((h_9a _ (fun h => by have h3 := h.1; have h4 := h.2; omega)).trans ho0) nX7_keep_X7 rfl 0 (by decide) (by decide +kernel) rfl (v := .ref x) rfl dX7_keep_50 ?_
        refine g_get (C := RX4) (T := TX4) (N := 13) hx hb hts hown hK hP hSt.c0 nX7_keep_X4 rfl 0 (by decide) (by decide +kernel) rfl (v := .int (nI (sB S))) rfl dX7_keep_53 ?_
        refine W.widen (k := 17) (n := 789) (Nat.le_of_ble_eq_true rfl) (Nat.le_of_ble_eq_true rfl) ?_
        exact g_iret (z := sz) hx hb hr hlk hz hP hL hS dX7_keep_56 (gxi_i ⟨by rw [if_pos hin], (by rw [keepC, keepK, if_pos hin, if_pos hin]; exact ⟨x, t, pa, sn, v, ch, tu, _, _, ⟨hx0, ht0, hpa0, hsn0, hv0, hch0, htu0, hob⟩, ((h_9a _ (fun h => by have h3 := h.1; have h4 := h.2; omega)).trans ho0), hSt, ⟨_, _, _, _, hTx⟩, hPa, ((h_9a _ (fun h => by have h3 := h.1; have h4 := h.2; omega)).trans hsn), ⟨_, _, _, _, hVo⟩, ⟨_, _, _, hCh⟩, ⟨_, hTu⟩, hPl, hg, (fun k hk => by by_cases c : k = tk a1; exact (by rw [c, hy_1]; exact if_pos rfl); exact (by rw [← hkp k hk]; exact if_neg c)), htn, hP5⟩), Nat.le_refl _, by omega, hag⟩)
    · refine lv_iconst (v := (-1)) hx hb dX7_keep_13 (by decide) ?_
      refine W.widen (k := 17) (n := 789) (Nat.le_of_ble_eq_true rfl) (Nat.le_of_ble_eq_true rfl) ?_
      exact g_iret (z := sz) hx hb hr hlk hz hP hL hS dX7_keep_14 (gxi_i ⟨by rw [if_neg (nb (inN_f3 c10))], (by rw [keepC, keepK, if_neg (nb (inN_f3 c10)), if_neg (nb (inN_f3 c10))]; exact ⟨x, t, pa, sn, v, ch, tu, _, _, ⟨hx0, ht0, hpa0, hsn0, hv0, hch0, htu0, hob⟩, ho0, hSt, ⟨_, _, _, _, hTx⟩, hPa, hsn, ⟨_, _, _, _, hVo⟩, ⟨_, _, _, hCh⟩, ⟨_, hTu⟩, hPl, hg, hkp, htn, hP5⟩), Nat.le_refl _, by omega, hag⟩)

theorem nX7_restore_X4 : ∀ w ∈ wsX40, w ∈ wsX7_restore := by decide +kernel
theorem nX7_restore_X7 : ∀ w ∈ wsX70, w ∈ wsX7_restore := by decide +kernel
set_option maxHeartbeats 4000000 in
set_option maxRecDepth 100000 in
theorem c_X7_restore (l : Launch) (o b : Nat) (S : sS) (tf : Nat → Int32) (tn P : Nat) (C : Nat → sS) (kp : Nat → Bool) (a1 : Int32) (σ : gS) (sz : Nat) (hW : Wo σ o b S tf tn P C kp sz) (hok : okS S) (hokK : ∀ k : Nat, k < 2 → kp k = true → okS (C (k + 5))) : gM l yX7_restore wsX7_restore ({ frames := 4, cells := 17, slots := 789, locals := 86 } : Room) 17 789 [.ref o, .int a1] σ sz (gxi (fun r τ n => wP o b σ S tf tn P C kp sz (o_restore S C kp a1) r τ n)) := by
  refine gM_of (cc := cX7_restore) (maxL := 3) (ret := (some .int)) (by decide) rfl (Nat.le_of_ble_eq_true rfl) ?_
  intro D ka lo hL hlo p e s m below meth c hx hb hr hts hown hml hlk hnm hK H locs ls hz hP hS hl
  have hl : lv_has ls 3 [(0, .ref o), (1, .int a1)] := hl
  have hown : s.vm.findClass RX7 = some m.cls := hown
  obtain ⟨x, t, pa, sn, v, ch, tu, g, sg, ⟨hx0, ht0, hpa0, hsn0, hv0, hch0, htu0, hob⟩, ho0, hSt, ⟨ta, tso, tld, tti, hTx⟩, hPa, hsn, ⟨vd, vf, vb, vw, hVo⟩, ⟨ca, cb, cd, hCh⟩, ⟨lf, hTu⟩, hPl, hg, hkp, htn, hP5⟩ := hW
  obtain ⟨hB, hN, hKs, hRs⟩ := hok
  have hbz := hPl.1
  have hag : gAs (Zc o b) σ σ := gAs.rf
  refine lv_iload_n hx hb dX7_restore_0 rfl (lv_at hl 1 rfl) ?_
  refine lv_if_lt (tgt := 13) hx hb dX7_restore_1 (by decide) (fun c1 => ?_) (fun c1 => ?_)
  · refine lv_iconst (v := (-1)) hx hb dX7_restore_13 (by decide) ?_
    refine W.widen (k := 17) (n := 789) (Nat.le_of_ble_eq_true rfl) (Nat.le_of_ble_eq_true rfl) ?_
    exact g_iret (z := sz) hx hb hr hlk hz hP hL hS dX7_restore_14 (gxi_i (wP_n (by rw [o_restore, if_neg (nb (inN_f1 c1))]) ⟨x, t, pa, sn, v, ch, tu, _, _, ⟨hx0, ht0, hpa0, hsn0, hv0, hch0, htu0, hob⟩, ho0, hSt, ⟨_, _, _, _, hTx⟩, hPa, hsn, ⟨_, _, _, _, hVo⟩, ⟨_, _, _, hCh⟩, ⟨_, hTu⟩, hPl, hg, hkp, htn, hP5⟩ (Nat.le_refl _) (by omega) hag))
  · refine lv_iload_n hx hb dX7_restore_4 rfl (lv_at hl 1 rfl) ?_
    refine lv_aload_n hx hb dX7_restore_5 rfl (lv_at hl 0 rfl) ?_
    refine g_get (C := RX7) (T := TX7) (N := 7) hx hb hts hown hK hP ho0 nX7_restore_X7 rfl 3 (by decide) (by decide +kernel) rfl (v := .ref sn) rfl dX7_restore_6 ?_
    refine g_aalen hx hb hK hP hsn dX7_restore_9 ?_
    refine lv_icmp_lt (tgt := 15) hx hb dX7_restore_10 (by decide) (fun c10 => ?_) (fun c10 => ?_)
    · have hin := inN_2 c1 c10
      obtain ⟨ha1e, ha1l⟩ := tk_in hin (by omega)
      refine lv_aload_n hx hb dX7_restore_15 rfl (lv_at hl 0 rfl) ?_
      refine g_get (C := RX7) (T := TX7) (N := 7) hx hb hts hown hK hP ho0 nX7_restore_X7 rfl 3 (by decide) (by decide +kernel) rfl (v := .ref sn) rfl dX7_restore_16 ?_
      refine lv_iload_n hx hb dX7_restore_19 rfl (lv_at hl 1 rfl) ?_
      refine g_top (y := (nI (tk a1))) ha1e ?_
      refine g_aald hx hb hK hP hsn (i := nI (tk a1)) (vp_in_nI (by omega) (by omega)) dX7_restore_20 ?_
      rw [nI_clamp (n := tk a1) (by omega)]
      rcases hy_1 : sg (tk a1) with _ | y_1
      · skip
        refine lv_astore_nN (lv' := [(2, .null), (0, .ref o), (1, .int a1)]) hx hb dX7_restore_21 rfl hl (by decide) rfl (fun ls hl => ?_)
        refine lv_aload_nN hx hb dX7_restore_22 rfl (lv_at hl 0 rfl) ?_
        refine lv_ifnonnullN hx hb dX7_restore_23 ?_
        refine lv_bipush (v := (-5)) hx hb dX7_restore_26 (by decide) ?_
        refine W.widen (k := 17) (n := 789) (Nat.le_of_ble_eq_true rfl) (Nat.le_of_ble_eq_true rfl) ?_
        exact g_iret (z := sz) hx hb hr hlk hz hP hL hS dX7_restore_28 (gxi_i (wP_n (by rw [o_restore, if_pos hin, if_neg (nb (by rw [hkp _ ha1l, hy_1]; rfl))]) ⟨x, t, pa, sn, v, ch, tu, _, _, ⟨hx0, ht0, hpa0, hsn0, hv0, hch0, htu0, hob⟩, ho0, hSt, ⟨_, _, _, _, hTx⟩, hPa, hsn, ⟨_, _, _, _, hVo⟩, ⟨_, _, _, hCh⟩, ⟨_, hTu⟩, hPl, hg, hkp, htn, hP5⟩ (Nat.le_refl _) (by omega) hag))
      · skip
        refine lv_astore_n (lv' := [(2, .ref y_1), (0, .ref o), (1, .int a1)]) hx hb dX7_restore_21 rfl hl (by decide) rfl (fun ls hl => ?_)
        refine lv_aload_n hx hb dX7_restore_22 rfl (lv_at hl 0 rfl) ?_
        refine lv_ifnonnull (tgt := 29) hx hb dX7_restore_23 (by decide) ?_
        refine lv_aload_n hx hb dX7_restore_29 rfl (lv_at hl 1 rfl) ?_
        refine g_get (C := RX7) (T := TX7) (N := 7) hx hb hts hown hK hP ho0 nX7_restore_X7 rfl 2 (by decide) (by decide +kernel) rfl (v := .ref pa) rfl dX7_restore_30 ?_
        refine lv_aload_n hx hb dX7_restore_33 rfl (lv_at hl 1 rfl) ?_
        refine g_get (C := RX7) (T := TX7) (N := 7) hx hb hts hown hK hP ho0 nX7_restore_X7 rfl 0 (by decide) (by decide +kernel) rfl (v := .ref x) rfl dX7_restore_34 ?_
        refine g_runV (As := [.ref x]) (rest := []) (own := RX7) (C := RX1) (T := TX1) (N := 2) 1 hx hb hml hown hts hK hz hP hL hS hlo hl.1 (c_X1_record l pa b x P g sg C S σ sz hPa hPl (by omega) hSt (by omega) (by omega) hP5 hg ⟨by omega, by omega, by omega, by omega⟩) gX7_restore_X1_record rfl rfl rfl (by decide +kernel) ⟨Nat.le_of_ble_eq_true rfl, Nat.le_of_ble_eq_true rfl⟩ hPa.c0 rfl rfl rfl (Nat.le_of_ble_eq_true rfl) dX7_restore_37 ⟨Nat.le_of_ble_eq_true rfl, Nat.le_of_ble_eq_true rfl⟩ (g_kxv (fun τ_2 H locs z_2 hz hp hP hL hS => ?_))
        obtain ⟨g_2, hzl, hzu, hp_2, hl_2, hg_2, hs_2, ha_2⟩ := hp
        have hTx := hTx.fr (τ := τ_2) (fun q h1 h2 => ha_2 q (fun h => Or.elim h (fun h3 => by have h4 := h3.1; have h5 := h3.2; omega) (fun h3 => by have h4 : b ≤ _ := h3; omega)))
        have hVo := hVo.fr (τ := τ_2) (fun q h1 h2 => ha_2 q (fun h => Or.elim h (fun h3 => by have h4 := h3.1; have h5 := h3.2; omega) (fun h3 => by have h4 : b ≤ _ := h3; omega)))
        have hCh := hCh.fr (τ := τ_2) (fun q h1 h2 => ha_2 q (fun h => Or.elim h (fun h3 => by have h4 := h3.1; have h5 := h3.2; omega) (fun h3 => by have h4 : b ≤ _ := h3; omega)))
        have hTu := hTu.fr (τ := τ_2) (fun q h1 h2 => ha_2 q (fun h => Or.elim h (fun h3 => by have h4 := h3.1; have h5 := h3.2; omega) (fun h3 => by have h4 : b ≤ _ := h3; omega)))
        have hPa := hp_2
        have hSt := hs_2
        have hag := hag.tr ha_2 (fun q h => Or.elim h (fun h3 => .inl ⟨by have h4 := h3.1; omega, by have h4 := h3.2; omega⟩) (fun h3 => .inr h3))
        have hPl := hl_2
        have hbz := hPl.1
        have hlo : lo ≤ z_2 := Nat.le_trans hlo hzl
        obtain ⟨y_11, y_12, hSy_1⟩ := hPl.s (by omega) hy_1
        have hSy_1 : StAt τ_2 y_1 (C (tk a1 + 5)) := by rw [recS_k _ _ (by omega)] at hSy_1; exact hSy_1
        obtain ⟨hB2, hN2, hK2, hR2⟩ := hokK (tk a1) ha1l (by rw [hkp _ ha1l, hy_1]; rfl)
        refine lv_aload_n hx hb dX7_restore_40 rfl (lv_at hl 1 rfl) ?_
        refine g_get (C := RX7) (T := TX7) (N := 7) hx hb hts hown hK hP ((ha_2 _ (fun h => Or.elim h (fun h3 => by have h4 := h3.1; have h5 := h3.2; omega) (fun h3 => by have h4 : b ≤ _ := h3; omega))).trans ho0) nX7_restore_X7 rfl 0 (by decide) (by decide +kernel) rfl (v := .ref x) rfl dX7_restore_41 ?_
        refine lv_aload_n hx hb dX7_restore_44 rfl (lv_at hl 0 rfl) ?_
        refine g_runV (As := [.ref y_1]) (rest := []) (own := RX7) (C := RX4) (T := TX4) (N := 13) 1 hx hb hml hown hts hK hz hP hL hS hlo hl.1 (c_X4_copyFrom l x y_1 S (C (tk a1 + 5)) τ_2 z_2 hSt hSy_1 (by omega) (by omega) (by omega) (by omega) (by omega)) gX7_restore_X4_copyFrom rfl rfl rfl (by decide +kernel) ⟨Nat.le_of_ble_eq_true rfl, Nat.le_of_ble_eq_true rfl⟩ hSt.c0 rfl rfl rfl (Nat.le_of_ble_eq_true rfl) dX7_restore_45 ⟨Nat.le_of_ble_eq_true rfl, Nat.le_of_ble_eq_true rfl⟩ (g_kxv0 (fun τ_3 H locs z1 hz hp hP hL hS => ?_))
        obtain ⟨hz1, h_4n, h_4a⟩ := hp
        have hz := hz.trans hz1
        have hTx := hTx.fr (τ := τ_3) (fun q h1 h2 => h_4a q (fun h => by have h3 := h.1; have h4 := h.2; omega))
        have hPa := hPa.fr (τ := τ_3) (fun q h1 h2 => h_4a q (fun h => by have h3 := h.1; have h4 := h.2; omega))
        have hVo := hVo.fr (τ := τ_3) (fun q h1 h2 => h_4a q (fun h => by have h3 := h.1; have h4 := h.2; omega))
        have hCh := hCh.fr (τ := τ_3) (fun q h1 h2 => h_4a q (fun h => by have h3 := h.1; have h4 := h.2; omega))
        have hTu := hTu.fr (τ := τ_3) (fun q h1 h2 => h_4a q (fun h => by have h3 := h.1; have h4 := h.2; omega))
        have hPl := hPl.fr (τ := τ_3) (fun q h1 h2 => h_4a q (fun h => by have h3 := h.1; have h4 := h.2; omega))
        have hSy_1 := hSy_1.fr (τ := τ_3) (fun q h1 h2 => h_4a q (fun h => by have h3 := h.1; have h4 := h.2; omega))
        have hSt := h_4n
        have hag := hag.tr h_4a (fun q h => .inl ⟨by have h3 := h.1; omega, by have h3 := h.2; omega⟩)
        refine lv_aload_n hx hb dX7_restore_48 rfl (lv_at hl 1 rfl) ?_
        refine g_get (C := RX7) (T := TX7) (N := 7) hx hb hts hown hK hP ((h_4a _ (fun h => by have h3 := h.1; have h4 := h.2; omega)).trans ((ha_2 _ (fun h => Or.elim h (fun h3 => by have h4 := h3.1; have h5 := h3.2; omega) (fun h3 => by have h4 : b ≤ _ := h3; omega))).trans ho0)) nX7_restore_X7 rfl 0 (by decide) (by decide +kernel) rfl (v := .ref x) rfl dX7_restore_49 ?_
        refine g_get (C := RX4) (T := TX4) (N := 13) hx hb hts hown hK hP hSt.c0 nX7_restore_X4 rfl 0 (by decide) (by decide +kernel) rfl (v := .int (nI (sB (C (tk a1 + 5))))) rfl dX7_restore_52 ?_
        refine W.widen (k := 17) (n := 789) (Nat.le_of_ble_eq_true rfl) (Nat.le_of_ble_eq_true rfl) ?_
        exact g_iret (z := z_2) hx hb hr hlk hz hP hL hS dX7_restore_55 (gxi_i (wP_s (by rw [o_restore, if_pos hin, if_pos (by rw [hkp _ ha1l, hy_1]; rfl)]) ⟨x, t, pa, sn, v, ch, tu, _, _, ⟨hx0, ht0, hpa0, hsn0, hv0, hch0, htu0, hob⟩, ((h_4a _ (fun h => by have h3 := h.1; have h4 := h.2; omega)).trans ((ha_2 _ (fun h => Or.elim h (fun h3 => by have h4 := h3.1; have h5 := h3.2; omega) (fun h3 => by have h4 : b ≤ _ := h3; omega))).trans ho0)), hSt, ⟨_, _, _, _, hTx⟩, hPa, ((h_4a _ (fun h => by have h3 := h.1; have h4 := h.2; omega)).trans ((ha_2 _ (fun h => Or.elim h (fun h3 => by have h4 := h3.1; have h5 := h3.2; omega) (fun h3 => by have h4 : b ≤ _ := h3; omega))).trans hsn)), ⟨_, _, _, _, hVo⟩, ⟨_, _, _, hCh⟩, ⟨_, hTu⟩, hPl, hg_2, hkp, htn, recP_le _⟩ hzl hzu hag))
    · refine lv_iconst (v := (-1)) hx hb dX7_restore_13 (by decide) ?_
      refine W.widen (k := 17) (n := 789) (Nat.le_of_ble_eq_true rfl) (Nat.le_of_ble_eq_true rfl) ?_
      exact g_iret (z := sz) hx hb hr hlk hz hP hL hS dX7_restore_14 (gxi_i (wP_n (by rw [o_restore, if_neg (nb (inN_f3 c10))]) ⟨x, t, pa, sn, v, ch, tu, _, _, ⟨hx0, ht0, hpa0, hsn0, hv0, hch0, htu0, hob⟩, ho0, hSt, ⟨_, _, _, _, hTx⟩, hPa, hsn, ⟨_, _, _, _, hVo⟩, ⟨_, _, _, hCh⟩, ⟨_, hTu⟩, hPl, hg, hkp, htn, hP5⟩ (Nat.le_refl _) (by omega) hag))

theorem nX7_setLoudness_X4 : ∀ w ∈ wsX40, w ∈ wsX7_setLoudness := by decide +kernel
theorem nX7_setLoudness_X7 : ∀ w ∈ wsX70, w ∈ wsX7_setLoudness := by decide +kernel
set_option maxHeartbeats 4000000 in
set_option maxRecDepth 100000 in
theorem c_X7_setLoudness (l : Launch) (o b : Nat) (S : sS) (tf : Nat → Int32) (tn P : Nat) (C : Nat → sS) (kp : Nat → Bool) (a1 a2 a3 : Int32) (σ : gS) (sz : Nat) (hW : Wo σ o b S tf tn P C kp sz) (hok : okS S) : gM l yX7_setLoudness wsX7_setLoudness ({ frames := 4, cells := 17, slots := 789, locals := 86 } : Room) 17 789 [.ref o, .int a1, .int a2, .int a3] σ sz (gxi (fun r τ n => wP o b σ S tf tn P C kp sz (o_setLoudness S a1 a2 a3) r τ n)) := by
  refine gM_of (cc := cX7_setLoudness) (maxL := 6) (ret := (some .int)) (by decide) rfl (Nat.le_of_ble_eq_true rfl) ?_
  intro D ka lo hL hlo p e s m below meth c hx hb hr hts hown hml hlk hnm hK H locs ls hz hP hS hl
  have hl : lv_has ls 6 [(0, .ref o), (1, .int a1), (2, .int a2), (3, .int a3)] := hl
  have hown : s.vm.findClass RX7 = some m.cls := hown
  obtain ⟨x, t, pa, sn, v, ch, tu, g, sg, ⟨hx0, ht0, hpa0, hsn0, hv0, hch0, htu0, hob⟩, ho0, hSt, ⟨ta, tso, tld, tti, hTx⟩, hPa, hsn, ⟨vd, vf, vb, vw, hVo⟩, ⟨ca, cb, cd, hCh⟩, ⟨lf, hTu⟩, hPl, hg, hkp, htn, hP5⟩ := hW
  obtain ⟨hB, hN, hKs, hRs⟩ := hok
  have hbz := hPl.1
  have hag : gAs (Zc o b) σ σ := gAs.rf
  refine lv_aload_n hx hb dX7_setLoudness_0 rfl (lv_at hl 0 rfl) ?_
  refine g_get (C := RX7) (T := TX7) (N := 7) hx hb hts hown hK hP ho0 nX7_setLoudness_X7 rfl 0 (by decide) (by decide +kernel) rfl (v := .ref x) rfl dX7_setLoudness_1 ?_
  refine lv_iload_n hx hb dX7_setLoudness_4 rfl (lv_at hl 1 rfl) ?_
  refine g_runV (As := [.int a1]) (rest := []) (own := RX7) (C := RX4) (T := TX4) (N := 13) 1 hx hb hml hown hts hK hz hP hL hS hlo hl.1 (c_X4_hasBeat l x S a1 σ sz hSt) gX7_setLoudness_X4_hasBeat rfl rfl rfl (by decide +kernel) ⟨Nat.le_of_ble_eq_true rfl, Nat.le_of_ble_eq_true rfl⟩ hSt.c0 rfl rfl rfl (Nat.le_of_ble_eq_true rfl) dX7_setLoudness_5 ⟨Nat.le_of_ble_eq_true rfl, Nat.le_of_ble_eq_true rfl⟩ (g_ki0 (fun H locs hz hP hL hS => ?_))
  refine g_ifb_eq (tgt := 22) hx hb dX7_setLoudness_8 (by decide) (fun c8 => ?_) (fun c8 => ?_)
  · refine lv_iconst (v := (-1)) hx hb dX7_setLoudness_22 (by decide) ?_
    refine W.widen (k := 17) (n := 789) (Nat.le_of_ble_eq_true rfl) (Nat.le_of_ble_eq_true rfl) ?_
    exact g_iret (z := sz) hx hb hr hlk hz hP hL hS dX7_setLoudness_23 (gxi_i (wP_n (by unfold o_setLoudness; rw [if_neg (by first | exact c8 | exact nb c8 | exact Ne.symm c8 | exact fun q => q c8 | exact fun q => q c8.symm | omega)]) ⟨x, t, pa, sn, v, ch, tu, _, _, ⟨hx0, ht0, hpa0, hsn0, hv0, hch0, htu0, hob⟩, ho0, hSt, ⟨_, _, _, _, hTx⟩, hPa, hsn, ⟨_, _, _, _, hVo⟩, ⟨_, _, _, hCh⟩, ⟨_, hTu⟩, hPl, hg, hkp, htn, hP5⟩ (Nat.le_refl _) (by omega) hag))
  · obtain ⟨ha1e, ha1l⟩ := tk_in c8 (by omega)
    refine lv_aload_n hx hb dX7_setLoudness_11 rfl (lv_at hl 0 rfl) ?_
    refine g_get (C := RX7) (T := TX7) (N := 7) hx hb hts hown hK hP ho0 nX7_setLoudness_X7 rfl 0 (by decide) (by decide +kernel) rfl (v := .ref x) rfl dX7_setLoudness_12 ?_
    refine lv_iload_n hx hb dX7_setLoudness_15 rfl (lv_at hl 2 rfl) ?_
    refine g_runV (As := [.int a2]) (rest := []) (own := RX7) (C := RX4) (T := TX4) (N := 13) 1 hx hb hml hown hts hK hz hP hL hS hlo hl.1 (c_X4_hasBeat l x S a2 σ sz hSt) gX7_setLoudness_X4_hasBeat rfl rfl rfl (by decide +kernel) ⟨Nat.le_of_ble_eq_true rfl, Nat.le_of_ble_eq_true rfl⟩ hSt.c0 rfl rfl rfl (Nat.le_of_ble_eq_true rfl) dX7_setLoudness_16 ⟨Nat.le_of_ble_eq_true rfl, Nat.le_of_ble_eq_true rfl⟩ (g_ki0 (fun H locs hz hP hL hS => ?_))
    refine g_ifb_ne (tgt := 24) hx hb dX7_setLoudness_19 (by decide) (fun c19 => ?_) (fun c19 => ?_)
    · obtain ⟨ha2e, ha2l⟩ := tk_in c19 (by omega)
      refine lv_iload_n hx hb dX7_setLoudness_24 rfl (lv_at hl 2 rfl) ?_
      refine g_top (y := (nI (tk a2))) ha2e ?_
      refine lv_iload_n hx hb dX7_setLoudness_25 rfl (lv_at hl 1 rfl) ?_
      refine g_top (y := (nI (tk a1))) ha1e ?_
      refine g_icmp_lt (tgt := 38) (a := tk a2) (b := tk a1) hx hb (by omega) (by omega) dX7_setLoudness_26 (by decide) (fun c26 => ?_) (fun c26 => ?_)
      · refine lv_bipush (v := (-2)) hx hb dX7_setLoudness_38 (by decide) ?_
        refine W.widen (k := 17) (n := 789) (Nat.le_of_ble_eq_true rfl) (Nat.le_of_ble_eq_true rfl) ?_
        exact g_iret (z := sz) hx hb hr hlk hz hP hL hS dX7_setLoudness_40 (gxi_i (wP_n (by unfold o_setLoudness; rw [if_pos (by first | exact c8 | exact nb c8 | exact Ne.symm c8 | exact fun q => q c8 | exact fun q => q c8.symm | omega), if_pos (by first | exact c19 | exact nb c19 | exact Ne.symm c19 | exact fun q => q c19 | exact fun q => q c19.symm | omega), if_neg (by first | exact c26 | exact nb c26 | exact Ne.symm c26 | exact fun q => q c26 | exact fun q => q c26.symm | omega)]) ⟨x, t, pa, sn, v, ch, tu, _, _, ⟨hx0, ht0, hpa0, hsn0, hv0, hch0, htu0, hob⟩, ho0, hSt, ⟨_, _, _, _, hTx⟩, hPa, hsn, ⟨_, _, _, _, hVo⟩, ⟨_, _, _, hCh⟩, ⟨_, hTu⟩, hPl, hg, hkp, htn, hP5⟩ (Nat.le_refl _) (by omega) hag))
      · refine lv_iload_n hx hb dX7_setLoudness_29 rfl (lv_at hl 3 rfl) ?_
        refine lv_iconst (v := (nI 1)) hx hb dX7_setLoudness_30 (by decide) ?_
        refine lv_iconst (v := (nI 5)) hx hb dX7_setLoudness_31 (by decide) ?_
        refine g_runS (As := [.int a3, .int (nI 1), .int (nI 5)]) (rest := []) (own := RX7) 3 hx hb hml hown hts hK hz hP hL hS hlo hl.1 (c_X7_isWithin l a3 ((nI 1)) ((nI 5)) σ sz) gX7_setLoudness_X7_isWithin rfl rfl rfl (by decide +kernel) ⟨Nat.le_of_ble_eq_true rfl, Nat.le_of_ble_eq_true rfl⟩ rfl rfl (Nat.le_of_ble_eq_true rfl) dX7_setLoudness_32 ⟨Nat.le_of_ble_eq_true rfl, Nat.le_of_ble_eq_true rfl⟩ (g_ki0 (fun H locs hz hP hL hS => ?_))
        refine g_ifb_ne (tgt := 41) hx hb dX7_setLoudness_35 (by decide) (fun c35 => ?_) (fun c35 => ?_)
        · refine lv_aload_n hx hb dX7_setLoudness_41 rfl (lv_at hl 0 rfl) ?_
          refine g_get (C := RX7) (T := TX7) (N := 7) hx hb hts hown hK hP ho0 nX7_setLoudness_X7 rfl 2 (by decide) (by decide +kernel) rfl (v := .ref pa) rfl dX7_setLoudness_42 ?_
          refine lv_aload_n hx hb dX7_setLoudness_45 rfl (lv_at hl 0 rfl) ?_
          refine g_get (C := RX7) (T := TX7) (N := 7) hx hb hts hown hK hP ho0 nX7_setLoudness_X7 rfl 0 (by decide) (by decide +kernel) rfl (v := .ref x) rfl dX7_setLoudness_46 ?_
          refine g_runV (As := [.ref x]) (rest := []) (own := RX7) (C := RX1) (T := TX1) (N := 2) 1 hx hb hml hown hts hK hz hP hL hS hlo hl.1 (c_X1_record l pa b x P g sg C S σ sz hPa hPl (by omega) hSt (by omega) (by omega) hP5 hg ⟨by omega, by omega, by omega, by omega⟩) gX7_setLoudness_X1_record rfl rfl rfl (by decide +kernel) ⟨Nat.le_of_ble_eq_true rfl, Nat.le_of_ble_eq_true rfl⟩ hPa.c0 rfl rfl rfl (Nat.le_of_ble_eq_true rfl) dX7_setLoudness_49 ⟨Nat.le_of_ble_eq_true rfl, Nat.le_of_ble_eq_true rfl⟩ (g_kxv (fun τ_1 H locs z_1 hz hp hP hL hS => ?_))
          obtain ⟨g_1, hzl, hzu, hp_1, hl_1, hg_1, hs_1, ha_1⟩ := hp
          have hTx := hTx.fr (τ := τ_1) (fun q h1 h2 => ha_1 q (fun h => Or.elim h (fun h3 => by have h4 := h3.1; have h5 := h3.2; omega) (fun h3 => by have h4 : b ≤ _ := h3; omega)))
          have hVo := hVo.fr (τ := τ_1) (fun q h1 h2 => ha_1 q (fun h => Or.elim h (fun h3 => by have h4 := h3.1; have h5 := h3.2; omega) (fun h3 => by have h4 : b ≤ _ := h3; omega)))
          have hCh := hCh.fr (τ := τ_1) (fun q h1 h2 => ha_1 q (fun h => Or.elim h (fun h3 => by have h4 := h3.1; have h5 := h3.2; omega) (fun h3 => by have h4 : b ≤ _ := h3; omega)))
          have hTu := hTu.fr (τ := τ_1) (fun q h1 h2 => ha_1 q (fun h => Or.elim h (fun h3 => by have h4 := h3.1; have h5 := h3.2; omega) (fun h3 => by have h4 : b ≤ _ := h3; omega)))
          have hPa := hp_1
          have hSt := hs_1
          have hag := hag.tr ha_1 (fun q h => Or.elim h (fun h3 => .inl ⟨by have h4 := h3.1; omega, by have h4 := h3.2; omega⟩) (fun h3 => .inr h3))
          have hPl := hl_1
          have hbz := hPl.1
          have hlo : lo ≤ z_1 := Nat.le_trans hlo hzl
          refine lv_iconst (v := (nI 0)) hx hb dX7_setLoudness_52 (by decide) ?_
          refine lv_istore (lv' := [(4, .int (nI 0)), (0, .ref o), (1, .int a1), (2, .int a2), (3, .int a3)]) hx hb dX7_setLoudness_53 hl (by decide) rfl (fun ls hl => ?_)
          refine lv_iload_n hx hb dX7_setLoudness_55 rfl (lv_at hl 2 rfl) ?_
          refine g_top (y := (nI (tk a1))) ha1e ?_
          refine lv_istore (lv' := [(5, .int (nI (tk a1))), (4, .int (nI 0)), (0, .ref o), (1, .int a1), (2, .int a2), (3, .int a3)]) hx hb dX7_setLoudness_56 hl (by decide) rfl (fun ls hl => ?_)
          have lp : ∀ (fu_lp : Nat) (k : Nat), (tk a1 ≤ k) → (k ≤ tk a2 + 1) → (tk a2 + 1 - k < fu_lp) → ∀ (υ : gS), (StAt υ x (louS S (tk a1) k a3)) → (TxAt υ t tf tn ta tso tld tti) → (PaAt υ pa (recP P) g_1) → (VoAt υ v vd vf vb vw) → (ChAt υ ch ca cb cd) → (TuAt υ tu lf) → (PlAt υ b g_1 sg (recS C P S) z_1) → (υ o = gO 7 [.ref x, .ref t, .ref pa, .ref sn, .ref v, .ref ch, .ref tu]) → (υ sn = gR 2 sg) → (gAs (Zc o b) σ υ) → gL lo υ → ∀ (H : Heap) (locs : List Loc) (ls : Array Slot), H.size = z_1 → gH D ka υ H → va_S (gA lo) s.heap H locs → lv_has ls 6 [(0, .ref o), (1, .int a1), (2, .int a2), (3, .int a3), (4, .int (nI (sndN S (tk a1) (k - tk a1)))), (5, .int (nI k))] → W p l e ({ frames := 4, cells := 17, slots := 789, locals := 86 } : Room) s m ([.ref o, .int a1, .int a2, .int a3] : List Value).toArray below meth c H locs (0 + 17) (0 + 789) (MQ below (gQ D ka lo (gxi (fun r τ n => wP o b σ S tf tn P C kp sz (o_setLoudness S a1 a2 a3) r τ n))) ([.ref o, .int a1, .int a2, .int a3] : List Value).toArray s 17 789 (gA lo)) (F0 m 58 ls []) := by
            intro fu_lp
            induction fu_lp with
            | zero => intro k hk1 hk2 hm_lp; exact absurd hm_lp (Nat.not_lt_zero _)
            | succ fu_lp ih_lp =>
              intro k hk1 hk2 hm_lp υ hSt hTx hPa hVo hCh hTu hPl ho0 hsn hag hL H locs ls hz hP hS hl
              have hB9 : sB (louS S (tk a1) k a3) ≤ 96 := hB
              have hsl := sndN_le S (tk a1) (k - tk a1)
              refine lv_iload hx hb dX7_setLoudness_58 (lv_at hl 5 rfl) ?_
              refine lv_iload_n hx hb dX7_setLoudness_60 rfl (lv_at hl 2 rfl) ?_
              refine g_top (y := (nI (tk a2))) ha2e ?_
              refine g_icmp_gt (tgt := 98) (a := k) (b := tk a2) hx hb (by omega) (by omega) dX7_setLoudness_61 (by decide) (fun c61 => ?_) (fun c61 => ?_)
              · refine lv_iload hx hb dX7_setLoudness_98 (lv_at hl 4 rfl) ?_
                refine W.widen (k := 17) (n := 789) (Nat.le_of_ble_eq_true rfl) (Nat.le_of_ble_eq_true rfl) ?_
                exact g_iret (z := z_1) hx hb hr hlk hz hP hL hS dX7_setLoudness_100 (gxi_i (wP_s (by rw [o_setLoudness, if_pos (by first | exact c8 | exact nb c8 | exact Ne.symm c8 | exact fun q => q c8 | exact fun q => q c8.symm | omega), if_pos (by first | exact c19 | exact nb c19 | exact Ne.symm c19 | exact fun q => q c19 | exact fun q => q c19.symm | omega), if_pos (by first | exact c26 | exact nb c26 | exact Ne.symm c26 | exact fun q => q c26 | exact fun q => q c26.symm | omega), if_pos (by first | exact c35 | exact nb c35 | exact Ne.symm c35 | exact fun q => q c35 | exact fun q => q c35.symm | omega), show tk a2 + 1 = k by omega]) ⟨x, t, pa, sn, v, ch, tu, _, _, ⟨hx0, ht0, hpa0, hsn0, hv0, hch0, htu0, hob⟩, ho0, hSt, ⟨_, _, _, _, hTx⟩, hPa, hsn, ⟨_, _, _, _, hVo⟩, ⟨_, _, _, hCh⟩, ⟨_, hTu⟩, hPl, hg_1, hkp, htn, recP_le _⟩ hzl hzu hag))
              · refine lv_aload_n hx hb dX7_setLoudness_64 rfl (lv_at hl 0 rfl) ?_
                refine g_get (C := RX7) (T := TX7) (N := 7) hx hb hts hown hK hP ho0 nX7_setLoudness_X7 rfl 0 (by decide) (by decide +kernel) rfl (v := .ref x) rfl dX7_setLoudness_65 ?_
                refine g_get (C := RX4) (T := TX4) (N := 13) hx hb hts hown hK hP hSt.c0 nX7_setLoudness_X4 rfl 6 (by decide) (by decide +kernel) rfl (v := .ref (x + 3)) rfl dX7_setLoudness_68 ?_
                refine lv_iload hx hb dX7_setLoudness_71 (lv_at hl 5 rfl) ?_
                refine lv_iload_n hx hb dX7_setLoudness_73 rfl (lv_at hl 3 rfl) ?_
                refine g_runV (As := [.int (nI k), .int a3]) (rest := []) (own := RX7) (C := RX2) (T := TX2) (N := 1) 2 hx hb hml hown hts hK hz hP hL hS hlo hl.1 (c_X2_put l (x + 3) 96 k ((louS S (tk a1) k a3) 1) a3 υ z_1 ⟨hSt.c3, hSt.c4⟩ (by omega) (by omega)) gX7_setLoudness_X2_put rfl rfl rfl (by decide +kernel) ⟨Nat.le_of_ble_eq_true rfl, Nat.le_of_ble_eq_true rfl⟩ hSt.c3 rfl rfl rfl (Nat.le_of_ble_eq_true rfl) dX7_setLoudness_74 ⟨Nat.le_of_ble_eq_true rfl, Nat.le_of_ble_eq_true rfl⟩ (g_kv0 (fun H locs hz hP hL hS => ?_))
                obtain ⟨σ2, e2⟩ : ∃ υ0 : gS, υ0 = gup υ (x + 4) (gI 96 (upd ((louS S (tk a1) k a3) 1) k a3)) := ⟨_, rfl⟩
                have hP : gH D ka σ2 H := by rw [e2]; exact hP
                have hL : gL lo σ2 := by rw [e2]; exact hL
                have hTx := hTx.fr (τ := σ2) (fun q h1 h2 => gup_eq e2 (by omega))
                have hPa := hPa.fr (τ := σ2) (fun q h1 h2 => gup_eq e2 (by omega))
                have hVo := hVo.fr (τ := σ2) (fun q h1 h2 => gup_eq e2 (by omega))
                have hCh := hCh.fr (τ := σ2) (fun q h1 h2 => gup_eq e2 (by omega))
                have hTu := hTu.fr (τ := σ2) (fun q h1 h2 => gup_eq e2 (by omega))
                have hPl := hPl.fr (τ := σ2) (fun q h1 h2 => gup_eq e2 (by omega))
                have hSt : StAt σ2 x (sRow (louS S (tk a1) k a3) 1 (upd ((louS S (tk a1) k a3) 1) k a3)) := by rw [e2]; exact hSt.w4 (upd ((louS S (tk a1) k a3) 1) k a3)
                have hag := hag.upe e2 (.inl ⟨by omega, by omega⟩)
                refine lv_aload_n hx hb dX7_setLoudness_77 rfl (lv_at hl 0 rfl) ?_
                refine g_get (C := RX7) (T := TX7) (N := 7) hx hb hts hown hK hP (gup_off e2 (by omega) ho0) nX7_setLoudness_X7 rfl 0 (by decide) (by decide +kernel) rfl (v := .ref x) rfl dX7_setLoudness_78 ?_
                refine lv_iload hx hb dX7_setLoudness_81 (lv_at hl 5 rfl) ?_
                refine g_runV (As := [.int (nI k)]) (rest := []) (own := RX7) (C := RX4) (T := TX4) (N := 13) 1 hx hb hml hown hts hK hz hP hL hS hlo hl.1 (c_X4_isRest l x (sRow (louS S (tk a1) k a3) 1 (upd ((louS S (tk a1) k a3) 1) k a3)) k σ2 z_1 hSt (by omega)) gX7_setLoudness_X4_isRest rfl rfl rfl (by decide +kernel) ⟨Nat.le_of_ble_eq_true rfl, Nat.le_of_ble_eq_true rfl⟩ hSt.c0 rfl rfl rfl (Nat.le_of_ble_eq_true rfl) dX7_setLoudness_83 ⟨Nat.le_of_ble_eq_true rfl, Nat.le_of_ble_eq_true rfl⟩ (g_ki0 (fun H locs hz hP hL hS => ?_))
                refine g_ifb_ne (tgt := 92) hx hb dX7_setLoudness_86 (by decide) (fun c86 => ?_) (fun c86 => ?_)
                · refine lv_iinc (v := (nI (k + 1))) (lv' := [(5, .int (nI (k + 1))), (0, .ref o), (1, .int a1), (2, .int a2), (3, .int a3), (4, .int (nI (sndN S (tk a1) (k - tk a1))))]) hx hb dX7_setLoudness_92 hl (k := 5) rfl (g_inc k 1) (by decide) rfl (fun ls hl => ?_)
                  refine lv_goto (tgt := 58) hx hb dX7_setLoudness_95 (by decide) ?_
                  have e_4 : (nI (sndN S (tk a1) (k - tk a1))) = (nI (sndN S (tk a1) ((k + 1) - tk a1))) := (by rw [show k + 1 - tk a1 = (k - tk a1) + 1 by omega]; exact congrArg nI (sndN_t (by rw [show tk a1 + (k - tk a1) = k by omega]; exact c86)).symm)
                  have hl := lv_sub hl (l' := [(0, .ref o), (1, .int a1), (2, .int a2), (3, .int a3), (4, .int (nI (sndN S (tk a1) (k - tk a1)))), (5, .int (nI (k + 1)))]) [1, 2, 3, 4, 5, 0] rfl
                  rw [e_4] at hl
                  exact ih_lp (k + 1) (by omega) (by omega) (by omega) σ2 (by rw [← louS_s hk1]; exact hSt) hTx hPa hVo hCh hTu hPl (gup_off e2 (by omega) ho0) (gup_off e2 (by omega) hsn) hag hL H locs ls hz hP hS hl
                · refine lv_iinc (v := (nI (sndN S (tk a1) (k - tk a1) + 1))) (lv' := [(4, .int (nI (sndN S (tk a1) (k - tk a1) + 1))), (0, .ref o), (1, .int a1), (2, .int a2), (3, .int a3), (5, .int (nI k))]) hx hb dX7_setLoudness_89 hl (k := 4) rfl (g_inc (sndN S (tk a1) (k - tk a1)) 1) (by decide) rfl (fun ls hl => ?_)
                  refine lv_iinc (v := (nI (k + 1))) (lv' := [(5, .int (nI (k + 1))), (4, .int (nI (sndN S (tk a1) (k - tk a1) + 1))), (0, .ref o), (1, .int a1), (2, .int a2), (3, .int a3)]) hx hb dX7_setLoudness_92 hl (k := 5) rfl (g_inc k 1) (by decide) rfl (fun ls hl => ?_)
                  refine lv_goto (tgt := 58) hx hb dX7_setLoudness_95 (by decide) ?_
                  have e_4 : (nI (sndN S (tk a1) (k - tk a1) + 1)) = (nI (sndN S (tk a1) ((k + 1) - tk a1))) := (by rw [show k + 1 - tk a1 = (k - tk a1) + 1 by omega]; exact congrArg nI (sndN_f (by rw [show tk a1 + (k - tk a1) = k by omega]; exact c86)).symm)
                  have hl := lv_sub hl (l' := [(0, .ref o), (1, .int a1), (2, .int a2), (3, .int a3), (4, .int (nI (sndN S (tk a1) (k - tk a1) + 1))), (5, .int (nI (k + 1)))]) [2, 3, 4, 5, 1, 0] rfl
                  rw [e_4] at hl
                  exact ih_lp (k + 1) (by omega) (by omega) (by omega) σ2 (by rw [← louS_s hk1]; exact hSt) hTx hPa hVo hCh hTu hPl (gup_off e2 (by omega) ho0) (gup_off e2 (by omega) hsn) hag hL H locs ls hz hP hS hl
          exact lp _ (tk a1) (Nat.le_refl _) (by omega) (Nat.lt_succ_self _) τ_1 (by rw [louS_0]; exact hSt) hTx hPa hVo hCh hTu hPl ((ha_1 _ (fun h => Or.elim h (fun h3 => by have h4 := h3.1; have h5 := h3.2; omega) (fun h3 => by have h4 : b ≤ _ := h3; omega))).trans ho0) ((ha_1 _ (fun h => Or.elim h (fun h3 => by have h4 := h3.1; have h5 := h3.2; omega) (fun h3 => by have h4 : b ≤ _ := h3; omega))).trans hsn) hag hL H locs ls hz hP hS (lv_sub hl [2, 3, 4, 5, 1, 0] (by rw [Nat.sub_self]; rfl))
        · refine lv_bipush (v := (-2)) hx hb dX7_setLoudness_38 (by decide) ?_
          refine W.widen (k := 17) (n := 789) (Nat.le_of_ble_eq_true rfl) (Nat.le_of_ble_eq_true rfl) ?_
          exact g_iret (z := sz) hx hb hr hlk hz hP hL hS dX7_setLoudness_40 (gxi_i (wP_n (by unfold o_setLoudness; rw [if_pos (by first | exact c8 | exact nb c8 | exact Ne.symm c8 | exact fun q => q c8 | exact fun q => q c8.symm | omega), if_pos (by first | exact c19 | exact nb c19 | exact Ne.symm c19 | exact fun q => q c19 | exact fun q => q c19.symm | omega), if_pos (by first | exact c26 | exact nb c26 | exact Ne.symm c26 | exact fun q => q c26 | exact fun q => q c26.symm | omega), if_neg (by first | exact c35 | exact nb c35 | exact Ne.symm c35 | exact fun q => q c35 | exact fun q => q c35.symm | omega)]) ⟨x, t, pa, sn, v, ch, tu, _, _, ⟨hx0, ht0, hpa0, hsn0, hv0, hch0, htu0, hob⟩, ho0, hSt, ⟨_, _, _, _, hTx⟩, hPa, hsn, ⟨_, _, _, _, hVo⟩, ⟨_, _, _, hCh⟩, ⟨_, hTu⟩, hPl, hg, hkp, htn, hP5⟩ (Nat.le_refl _) (by omega) hag))
    · refine lv_iconst (v := (-1)) hx hb dX7_setLoudness_22 (by decide) ?_
      refine W.widen (k := 17) (n := 789) (Nat.le_of_ble_eq_true rfl) (Nat.le_of_ble_eq_true rfl) ?_
      exact g_iret (z := sz) hx hb hr hlk hz hP hL hS dX7_setLoudness_23 (gxi_i (wP_n (by unfold o_setLoudness; rw [if_pos (by first | exact c8 | exact nb c8 | exact Ne.symm c8 | exact fun q => q c8 | exact fun q => q c8.symm | omega), if_neg (by first | exact c19 | exact nb c19 | exact Ne.symm c19 | exact fun q => q c19 | exact fun q => q c19.symm | omega)]) ⟨x, t, pa, sn, v, ch, tu, _, _, ⟨hx0, ht0, hpa0, hsn0, hv0, hch0, htu0, hob⟩, ho0, hSt, ⟨_, _, _, _, hTx⟩, hPa, hsn, ⟨_, _, _, _, hVo⟩, ⟨_, _, _, hCh⟩, ⟨_, hTu⟩, hPl, hg, hkp, htn, hP5⟩ (Nat.le_refl _) (by omega) hag))
