/-! rows -/
def clrF (f : Nat → Int32) (k : Nat) : Nat → Int32 := fun i => if i < k then 0 else f i
theorem clrF_0 (f : Nat → Int32) : clrF f 0 = f := by funext i; simp [clrF]
theorem clrF_s (f : Nat → Int32) (k : Nat) : upd (clrF f k) k (nI 0) = clrF f (k + 1) := by
  funext i
  simp only [upd, clrF]
  by_cases h : i = k
  · subst h; simp [nI_0]
  · rw [if_neg h]
    by_cases h2 : i < k
    · rw [if_pos h2, if_pos (by omega)]
    · rw [if_neg h2, if_neg (by omega)]
def cpyF (f g : Nat → Int32) (k : Nat) : Nat → Int32 := fun i => if i < k then g i else f i
theorem cpyF_0 (f g : Nat → Int32) : cpyF f g 0 = f := by funext i; simp [cpyF]
theorem cpyF_s (f g : Nat → Int32) (k : Nat) : upd (cpyF f g k) k (g k) = cpyF f g (k + 1) := by
  funext i
  simp only [upd, cpyF]
  by_cases h : i = k
  · subst h; simp
  · rw [if_neg h]
    by_cases h2 : i < k
    · rw [if_pos h2, if_pos (by omega)]
    · rw [if_neg h2, if_neg (by omega)]
theorem nX2_at_X2 : ∀ w ∈ wsX20, w ∈ wsX2_at := by decide +kernel
set_option maxHeartbeats 4000000 in
set_option maxRecDepth 100000 in
theorem c_X2_at (l : Launch) (h n k : Nat) (f : Nat → Int32) (σ : gS) (sz : Nat) (hRo : RoAt σ h n f) (hk : k < n) (hn : n < 2147483648) : gM l yX2_at wsX2_at ({ frames := 0, cells := 0, slots := 0, locals := 0 } : Room) 0 0 [.ref h, .int (nI k)] σ sz (gi (f k) σ sz) := by
  refine gM_of (cc := cX2_at) (maxL := 2) (ret := (some .int)) (by decide) rfl (Nat.le_of_ble_eq_true rfl) ?_
  intro D ka lo hL hlo p e s m below meth c hx hb hr hts hown hml hlk hnm hK H locs ls hz hP hS hl
  have hl : lv_has ls 2 [(0, .ref h), (1, .int (nI k))] := hl
  have hown : s.vm.findClass RX2 = some m.cls := hown
  refine lv_iload_n hx hb dX2_at_0 rfl (lv_at hl 1 rfl) ?_
  refine g_if_lt hx hb (by omega) dX2_at_1 (tgt := 22) (by decide) ?_
  refine lv_iload_n hx hb dX2_at_4 rfl (lv_at hl 1 rfl) ?_
  refine lv_aload_n hx hb dX2_at_5 rfl (lv_at hl 0 rfl) ?_
  refine g_get (C := RX2) (T := TX2) (N := 1) hx hb hts hown hK hP hRo.c0 nX2_at_X2 rfl 0 (by decide) (by decide +kernel) rfl (v := .ref (h + 1)) rfl dX2_at_6 ?_
  refine g_ialen hx hb hK hP hRo.c1 dX2_at_9 ?_
  refine g_icmp_ge (tgt := 22) (a := k) (b := n) hx hb (by omega) (by omega) dX2_at_10 (by decide) (fun c10 => ?_) (fun c10 => ?_)
  · exact False.elim (by omega)
  · refine lv_aload_n hx hb dX2_at_13 rfl (lv_at hl 0 rfl) ?_
    refine g_get (C := RX2) (T := TX2) (N := 1) hx hb hts hown hK hP hRo.c0 nX2_at_X2 rfl 0 (by decide) (by decide +kernel) rfl (v := .ref (h + 1)) rfl dX2_at_14 ?_
    refine lv_iload_n hx hb dX2_at_17 rfl (lv_at hl 1 rfl) ?_
    refine g_iald hx hb hK hP hRo.c1 (i := nI k) (vp_in_nI (by omega) (by omega)) dX2_at_18 ?_
    rw [nI_clamp (n := k) (by omega)]
    refine lv_goto (tgt := 23) hx hb dX2_at_19 (by decide) ?_
    exact g_iret (z := sz) hx hb hr hlk hz hP hL hS dX2_at_23 (gi_i rfl rfl)

theorem nX2_put_X2 : ∀ w ∈ wsX20, w ∈ wsX2_put := by decide +kernel
set_option maxHeartbeats 4000000 in
set_option maxRecDepth 100000 in
theorem c_X2_put (l : Launch) (h n k : Nat) (f : Nat → Int32) (v : Int32) (σ : gS) (sz : Nat) (hRo : RoAt σ h n f) (hk : k < n) (hn : n < 2147483648) : gM l yX2_put wsX2_put ({ frames := 0, cells := 0, slots := 0, locals := 0 } : Room) 0 0 [.ref h, .int (nI k), .int v] σ sz (gv (gup σ (h + 1) (gI n (upd f k v))) sz) := by
  refine gM_of (cc := cX2_put) (maxL := 3) (ret := none) (by decide) rfl (Nat.le_of_ble_eq_true rfl) ?_
  intro D ka lo hL hlo p e s m below meth c hx hb hr hts hown hml hlk hnm hK H locs ls hz hP hS hl
  have hl : lv_has ls 3 [(0, .ref h), (1, .int (nI k)), (2, .int v)] := hl
  have hown : s.vm.findClass RX2 = some m.cls := hown
  refine lv_iload_n hx hb dX2_put_0 rfl (lv_at hl 1 rfl) ?_
  refine g_if_lt hx hb (by omega) dX2_put_1 (tgt := 20) (by decide) ?_
  refine lv_iload_n hx hb dX2_put_4 rfl (lv_at hl 1 rfl) ?_
  refine lv_aload_n hx hb dX2_put_5 rfl (lv_at hl 0 rfl) ?_
  refine g_get (C := RX2) (T := TX2) (N := 1) hx hb hts hown hK hP hRo.c0 nX2_put_X2 rfl 0 (by decide) (by decide +kernel) rfl (v := .ref (h + 1)) rfl dX2_put_6 ?_
  refine g_ialen hx hb hK hP hRo.c1 dX2_put_9 ?_
  refine g_icmp_ge (tgt := 20) (a := k) (b := n) hx hb (by omega) (by omega) dX2_put_10 (by decide) (fun c10 => ?_) (fun c10 => ?_)
  · exact False.elim (by omega)
  · refine lv_aload_n hx hb dX2_put_13 rfl (lv_at hl 0 rfl) ?_
    refine g_get (C := RX2) (T := TX2) (N := 1) hx hb hts hown hK hP hRo.c0 nX2_put_X2 rfl 0 (by decide) (by decide +kernel) rfl (v := .ref (h + 1)) rfl dX2_put_14 ?_
    refine lv_iload_n hx hb dX2_put_17 rfl (lv_at hl 1 rfl) ?_
    refine lv_iload_n hx hb dX2_put_18 rfl (lv_at hl 2 rfl) ?_
    refine g_iast hx hb hK hP hL hS hRo.c1 (i := nI k) (vp_in_nI (by omega) (by omega)) dX2_put_19 (fun H locs hq hP hL hS => ?_)
    rw [nI_clamp (n := k) (by omega)] at hP hL
    have hz := hq.trans hz
    have hP : gH D ka (gup σ (h + 1) (gI n (upd f k v))) H := hP
    have hL : gL lo (gup σ (h + 1) (gI n (upd f k v))) := hL
    have hRo := hRo.w1 (upd f k v)
    exact g_vret (z := sz) hx hb hr hlk hz hP hL hS dX2_put_20 (gv_i rfl)

theorem nX2_clear_X2 : ∀ w ∈ wsX20, w ∈ wsX2_clear := by decide +kernel
set_option maxHeartbeats 4000000 in
set_option maxRecDepth 100000 in
theorem c_X2_clear (l : Launch) (h n : Nat) (f : Nat → Int32) (σ : gS) (sz : Nat) (hRo : RoAt σ h n f) (hn : n < 2147483648) : gM l yX2_clear wsX2_clear ({ frames := 0, cells := 0, slots := 0, locals := 0 } : Room) 0 0 [.ref h] σ sz (gv (gup σ (h + 1) (gI n (fun _ => 0))) sz) := by
  refine gM_of (cc := cX2_clear) (maxL := 2) (ret := none) (by decide) rfl (Nat.le_of_ble_eq_true rfl) ?_
  intro D ka lo hL hlo p e s m below meth c hx hb hr hts hown hml hlk hnm hK H locs ls hz hP hS hl
  have hl : lv_has ls 2 [(0, .ref h)] := hl
  have hown : s.vm.findClass RX2 = some m.cls := hown
  have hRo0 := hRo
  have hL0 := hL
  refine lv_iconst (v := (nI 0)) hx hb dX2_clear_0 (by decide) ?_
  refine lv_istore_n (lv' := [(1, .int (nI 0)), (0, .ref h)]) hx hb dX2_clear_1 rfl hl (by decide) rfl (fun ls hl => ?_)
  have lp : ∀ (fu_lp : Nat) (k : Nat), (k ≤ n) → (n - k < fu_lp) → ∀ (υ : gS), (υ = gup σ (h + 1) (gI n (clrF f k))) → gL lo υ → ∀ (H : Heap) (locs : List Loc) (ls : Array Slot), H.size = sz → gH D ka υ H → va_S (gA lo) s.heap H locs → lv_has ls 2 [(0, .ref h), (1, .int (nI k))] → W p l e ({ frames := 0, cells := 0, slots := 0, locals := 0 } : Room) s m ([.ref h] : List Value).toArray below meth c H locs (0) (0) (MQ below (gQ D ka lo (gv (gup σ (h + 1) (gI n (fun _ => 0))) sz)) ([.ref h] : List Value).toArray s 0 0 (gA lo)) (F0 m 2 ls []) := by
    intro fu_lp
    induction fu_lp with
    | zero => intro k hk hm_lp; exact absurd hm_lp (Nat.not_lt_zero _)
    | succ fu_lp ih_lp =>
      intro k hk hm_lp υ hυ hL H locs ls hz hP hS hl
      subst hυ
      have hRo := hRo.w1 (clrF f k)
      refine lv_iload_n hx hb dX2_clear_2 rfl (lv_at hl 1 rfl) ?_
      refine lv_aload_n hx hb dX2_clear_3 rfl (lv_at hl 0 rfl) ?_
      refine g_get (C := RX2) (T := TX2) (N := 1) hx hb hts hown hK hP hRo.c0 nX2_clear_X2 rfl 0 (by decide) (by decide +kernel) rfl (v := .ref (h + 1)) rfl dX2_clear_4 ?_
      refine g_ialen hx hb hK hP hRo.c1 dX2_clear_7 ?_
      refine g_icmp_ge (tgt := 24) (a := k) (b := n) hx hb (by omega) (by omega) dX2_clear_8 (by decide) (fun c8 => ?_) (fun c8 => ?_)
      · have hk2 : k = n := by omega
        subst hk2
        have hP := gH.ext hP (g := fun _ => 0) (fun i hi => by simp [clrF, hi])
        have hL : gL lo (gup σ (h + 1) (gI k (fun _ => 0))) := hL0.up (by have := hL0 _ _ hRo0.c1; omega) _
        exact g_vret (z := sz) hx hb hr hlk hz hP hL hS dX2_clear_24 (gv_i rfl)
      · refine lv_aload_n hx hb dX2_clear_11 rfl (lv_at hl 0 rfl) ?_
        refine g_get (C := RX2) (T := TX2) (N := 1) hx hb hts hown hK hP hRo.c0 nX2_clear_X2 rfl 0 (by decide) (by decide +kernel) rfl (v := .ref (h + 1)) rfl dX2_clear_12 ?_
        refine lv_iload_n hx hb dX2_clear_15 rfl (lv_at hl 1 rfl) ?_
        refine lv_iconst (v := (nI 0)) hx hb dX2_clear_16 (by decide) ?_
        refine g_iast hx hb hK hP hL hS hRo.c1 (i := nI k) (vp_in_nI (by omega) (by omega)) dX2_clear_17 (fun H locs hq hP hL hS => ?_)
        rw [nI_clamp (n := k) (by omega)] at hP hL
        have hz := hq.trans hz
        have hP : gH D ka (gup ((gup σ (h + 1) (gI n (clrF f k)))) (h + 1) (gI n (upd (clrF f k) k ((nI 0))))) H := hP
        have hL : gL lo (gup ((gup σ (h + 1) (gI n (clrF f k)))) (h + 1) (gI n (upd (clrF f k) k ((nI 0))))) := hL
        have hRo := hRo.w1 (upd (clrF f k) k ((nI 0)))
        refine lv_iinc (v := (nI (k + 1))) (lv' := [(1, .int (nI (k + 1))), (0, .ref h)]) hx hb dX2_clear_18 hl (k := 1) rfl (g_inc k 1) (by decide) rfl (fun ls hl => ?_)
        refine lv_goto (tgt := 2) hx hb dX2_clear_21 (by decide) ?_
        exact ih_lp (k + 1) (by omega) (by omega) (gup ((gup σ (h + 1) (gI n (clrF f k)))) (h + 1) (gI n (upd (clrF f k) k ((nI 0))))) (by rw [gup_gup, clrF_s]) hL H locs ls hz hP hS (lv_sub hl [1, 0] rfl)
  exact lp _ 0 (by omega) (Nat.lt_succ_self _) σ (by rw [clrF_0, gup_self hRo.c1]) hL H locs ls hz hP hS (lv_sub hl [1, 0] rfl)

theorem nX2_copyFrom_X2 : ∀ w ∈ wsX20, w ∈ wsX2_copyFrom := by decide +kernel
set_option maxHeartbeats 4000000 in
set_option maxRecDepth 100000 in
theorem c_X2_copyFrom (l : Launch) (h g0 n : Nat) (f g : Nat → Int32) (σ : gS) (sz : Nat) (hRo : RoAt σ h n f) (hRg : RoAt σ g0 n g) (hap : g0 + 2 ≤ h ∨ h + 2 ≤ g0) (hn : n < 2147483648) : gM l yX2_copyFrom wsX2_copyFrom ({ frames := 1, cells := 0, slots := 0, locals := 21 } : Room) 0 0 [.ref h, .ref g0] σ sz (gv (gup σ (h + 1) (gI n g)) sz) := by
  refine gM_of (cc := cX2_copyFrom) (maxL := 3) (ret := none) (by decide) rfl (Nat.le_of_ble_eq_true rfl) ?_
  intro D ka lo hL hlo p e s m below meth c hx hb hr hts hown hml hlk hnm hK H locs ls hz hP hS hl
  have hl : lv_has ls 3 [(0, .ref h), (1, .ref g0)] := hl
  have hown : s.vm.findClass RX2 = some m.cls := hown
  have hRo0 := hRo
  have hL0 := hL
  refine lv_iconst (v := (nI 0)) hx hb dX2_copyFrom_0 (by decide) ?_
  refine lv_istore_n (lv' := [(2, .int (nI 0)), (0, .ref h), (1, .ref g0)]) hx hb dX2_copyFrom_1 rfl hl (by decide) rfl (fun ls hl => ?_)
  have lp : ∀ (fu_lp : Nat) (k : Nat), (k ≤ n) → (n - k < fu_lp) → ∀ (υ : gS), (υ = gup σ (h + 1) (gI n (cpyF f g k))) → gL lo υ → ∀ (H : Heap) (locs : List Loc) (ls : Array Slot), H.size = sz → gH D ka υ H → va_S (gA lo) s.heap H locs → lv_has ls 3 [(0, .ref h), (1, .ref g0), (2, .int (nI k))] → W p l e ({ frames := 1, cells := 0, slots := 0, locals := 21 } : Room) s m ([.ref h, .ref g0] : List Value).toArray below meth c H locs (0) (0) (MQ below (gQ D ka lo (gv (gup σ (h + 1) (gI n g)) sz)) ([.ref h, .ref g0] : List Value).toArray s 0 0 (gA lo)) (F0 m 2 ls []) := by
    intro fu_lp
    induction fu_lp with
    | zero => intro k hk hm_lp; exact absurd hm_lp (Nat.not_lt_zero _)
    | succ fu_lp ih_lp =>
      intro k hk hm_lp υ hυ hL H locs ls hz hP hS hl
      subst hυ
      have hRo := hRo.w1 (cpyF f g k)
      have hRg := hRg.fr (τ := gup σ (h + 1) (gI n (cpyF f g k))) (fun q h1 h2 => gup_n (by omega))
      refine lv_iload_n hx hb dX2_copyFrom_2 rfl (lv_at hl 2 rfl) ?_
      refine lv_aload_n hx hb dX2_copyFrom_3 rfl (lv_at hl 0 rfl) ?_
      refine g_get (C := RX2) (T := TX2) (N := 1) hx hb hts hown hK hP hRo.c0 nX2_copyFrom_X2 rfl 0 (by decide) (by decide +kernel) rfl (v := .ref (h + 1)) rfl dX2_copyFrom_4 ?_
      refine g_ialen hx hb hK hP hRo.c1 dX2_copyFrom_7 ?_
      refine g_icmp_ge (tgt := 28) (a := k) (b := n) hx hb (by omega) (by omega) dX2_copyFrom_8 (by decide) (fun c8 => ?_) (fun c8 => ?_)
      · have hk2 : k = n := by omega
        subst hk2
        have hP := gH.ext hP (g := g) (fun i hi => by simp [cpyF, hi])
        have hL : gL lo (gup σ (h + 1) (gI k g)) := hL0.up (by have := hL0 _ _ hRo0.c1; omega) _
        exact g_vret (z := sz) hx hb hr hlk hz hP hL hS dX2_copyFrom_28 (gv_i rfl)
      · refine lv_aload_n hx hb dX2_copyFrom_11 rfl (lv_at hl 0 rfl) ?_
        refine g_get (C := RX2) (T := TX2) (N := 1) hx hb hts hown hK hP hRo.c0 nX2_copyFrom_X2 rfl 0 (by decide) (by decide +kernel) rfl (v := .ref (h + 1)) rfl dX2_copyFrom_12 ?_
        refine lv_iload_n hx hb dX2_copyFrom_15 rfl (lv_at hl 2 rfl) ?_
        refine lv_aload_n hx hb dX2_copyFrom_16 rfl (lv_at hl 1 rfl) ?_
        refine lv_iload_n hx hb dX2_copyFrom_17 rfl (lv_at hl 2 rfl) ?_
        refine g_runV (As := [.int (nI k)]) (rest := [.int (nI k), .ref (h + 1)]) (own := RX2) (C := RX2) (T := TX2) (N := 1) 1 hx hb hml hown hts hK hz hP hL hS hlo hl.1 (c_X2_at l g0 n k g ((gup σ (h + 1) (gI n (cpyF f g k)))) sz ⟨hRg.c0, hRg.c1⟩ (by omega) (by omega)) gX2_copyFrom_X2_at rfl rfl rfl (by decide +kernel) ⟨Nat.le_of_ble_eq_true rfl, Nat.le_of_ble_eq_true rfl⟩ hRg.c0 rfl rfl rfl (Nat.le_of_ble_eq_true rfl) dX2_copyFrom_18 ⟨Nat.le_of_ble_eq_true rfl, Nat.le_of_ble_eq_true rfl⟩ (g_ki0 (fun H locs hz hP hL hS => ?_))
        refine g_iast hx hb hK hP hL hS hRo.c1 (i := nI k) (vp_in_nI (by omega) (by omega)) dX2_copyFrom_21 (fun H locs hq hP hL hS => ?_)
        rw [nI_clamp (n := k) (by omega)] at hP hL
        have hz := hq.trans hz
        have hP : gH D ka (gup ((gup σ (h + 1) (gI n (cpyF f g k)))) (h + 1) (gI n (upd (cpyF f g k) k ((g k))))) H := hP
        have hL : gL lo (gup ((gup σ (h + 1) (gI n (cpyF f g k)))) (h + 1) (gI n (upd (cpyF f g k) k ((g k))))) := hL
        have hRg := hRg.fr (τ := (gup ((gup σ (h + 1) (gI n (cpyF f g k)))) (h + 1) (gI n (upd (cpyF f g k) k ((g k)))))) (fun q h1 h2 => gup_n (by omega))
        have hRo := hRo.w1 (upd (cpyF f g k) k ((g k)))
        refine lv_iinc (v := (nI (k + 1))) (lv' := [(2, .int (nI (k + 1))), (0, .ref h), (1, .ref g0)]) hx hb dX2_copyFrom_22 hl (k := 2) rfl (g_inc k 1) (by decide) rfl (fun ls hl => ?_)
        refine lv_goto (tgt := 2) hx hb dX2_copyFrom_25 (by decide) ?_
        exact ih_lp (k + 1) (by omega) (by omega) (gup ((gup σ (h + 1) (gI n (cpyF f g k)))) (h + 1) (gI n (upd (cpyF f g k) k ((g k))))) (by rw [gup_gup, cpyF_s]) hL H locs ls hz hP hS (lv_sub hl [1, 2, 0] rfl)
  exact lp _ 0 (by omega) (Nat.lt_succ_self _) σ (by rw [cpyF_0, gup_self hRo.c1]) hL H locs ls hz hP hS (lv_sub hl [1, 2, 0] rfl)
