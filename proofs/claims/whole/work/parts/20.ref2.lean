/-! the reference reads -/
theorem bI_add {n : Nat} {p : Nat → Bool} : nI (cntF p n) + bI (p n) = nI (cntF p (n + 1)) := by
  cases h : p n with
  | true => rw [cntF_t h]; exact (nI_add (cntF p n) 1)
  | false => rw [cntF_f h]; exact Int32.add_zero _
def suF (g : Nat → Nat) : Nat → Nat
  | 0 => 0
  | n + 1 => suF g n + g n
theorem suF_le {g : Nat → Nat} {c : Nat} (h : ∀ i, g i ≤ c) : ∀ n, suF g n ≤ c * n
  | 0 => Nat.le_refl 0
  | n + 1 => by
    have := suF_le h n
    have := h n
    rw [suF, Nat.mul_succ]
    omega
theorem oI_lt {o : Option Nat} (h : ∀ k, o = some k → k < 2147483648) : oI o < 0 ↔ o = none := by
  cases o with
  | none => exact ⟨fun _ => rfl, fun _ => by decide⟩
  | some k => exact ⟨fun q => absurd q (Int32.not_lt.mpr (nI_pos' (h k rfl))), fun q => by cases q⟩
/-- somebody can sing it -/
def sgF (S : sS) (lf : Nat → Int32) (g : Int32) (b : Nat) : Nat → Bool
  | 0 => false
  | n + 1 => sgF S lf g b n || canP S lf g b n
theorem sgF_e (S : sS) (lf : Nat → Int32) (g : Int32) (b : Nat) : ∀ n k, (firstK (canP S lf g b) n k).isSome = true ↔ ∃ i, k ≤ i ∧ i < k + n ∧ canP S lf g b i = true
  | 0, k => by simp [firstK]; intro i h1 h2; omega
  | n + 1, k => by
    rw [firstK]
    by_cases c : canP S lf g b k = true
    · rw [if_pos c]
      exact ⟨fun _ => ⟨k, Nat.le_refl k, by omega, c⟩, fun _ => rfl⟩
    · rw [if_neg c, sgF_e S lf g b n (k + 1)]
      constructor
      · rintro ⟨i, h1, h2, h3⟩; exact ⟨i, by omega, by omega, h3⟩
      · rintro ⟨i, h1, h2, h3⟩
        by_cases e : i = k
        · subst e; exact absurd h3 c
        · exact ⟨i, by omega, by omega, h3⟩
theorem sgF_x (S : sS) (lf : Nat → Int32) (g : Int32) (b : Nat) : ∀ n, sgF S lf g b n = true ↔ ∃ i, i < n ∧ canP S lf g b i = true
  | 0 => by simp [sgF]
  | n + 1 => by
    rw [sgF, Bool.or_eq_true, sgF_x S lf g b n]
    constructor
    · rintro (⟨i, h1, h2⟩ | h)
      · exact ⟨i, by omega, h2⟩
      · exact ⟨n, by omega, h⟩
    · rintro ⟨i, h1, h2⟩
      by_cases e : i = n
      · subst e; exact Or.inr h2
      · exact Or.inl ⟨i, by omega, h2⟩
theorem sgF_can (S : sS) (lf : Nat → Int32) (g : Int32) (b : Nat) : sgF S lf g b (sN S) = canF S lf g b := by
  apply Bool.eq_iff_iff.mpr
  rw [sgF_x, canF, sgF_e]
  constructor
  · rintro ⟨i, h1, h2⟩; exact ⟨i, by omega, by omega, h2⟩
  · rintro ⟨i, h1, h2, h3⟩; exact ⟨i, by omega, h3⟩
/-- the one who wants most: by the best so far -/
theorem shP_v {S : sS} {lf : Nat → Int32} {ned g : Int32} : ∀ n : Nat, (shP S lf ned g n).2 = (match (shP S lf ned g n).1 with | none => ned | some q => lf q) ∧ (∀ q, (shP S lf ned g n).1 = some q → lf q < ned)
  | 0 => ⟨rfl, fun q h => by cases h⟩
  | n + 1 => by
    obtain ⟨h1, h2⟩ := shP_v (S := S) (lf := lf) (ned := ned) (g := g) n
    rw [shP]
    by_cases c : presB S n = true ∧ hasB g n = false ∧ lf n < (shP S lf ned g n).2
    · rw [if_pos c]
      refine ⟨rfl, fun q hq => ?_⟩
      cases hq
      rw [h1] at c
      cases e : (shP S lf ned g n).1 with
      | none => rw [e] at c; exact c.2.2
      | some q => rw [e] at c; exact Int32.lt_trans c.2.2 (h2 q e)
    · rw [if_neg c]; exact ⟨h1, h2⟩
theorem shP_y {S : sS} {lf : Nat → Int32} {ned g : Int32} {n : Nat} (hp : presB S n = true) (hg : hasB g n = false) (hl : lf n < ned) (hb : ∀ q, (shP S lf ned g n).1 = some q → lf n < lf q) : (shP S lf ned g (n + 1)).1 = some n := by
  have hc : lf n < (shP S lf ned g n).2 := by
    rw [(shP_v n).1]
    cases e : (shP S lf ned g n).1 with
    | none => exact hl
    | some q => exact hb q e
  rw [shP, if_pos ⟨hp, hg, hc⟩]
theorem shP_n {S : sS} {lf : Nat → Int32} {ned g : Int32} {n : Nat} (h : presB S n = false ∨ hasB g n = true ∨ ned ≤ lf n ∨ ∃ q, (shP S lf ned g n).1 = some q ∧ lf q ≤ lf n) : (shP S lf ned g (n + 1)).1 = (shP S lf ned g n).1 := by
  rw [shP, if_neg ?_]
  rintro ⟨c1, c2, c3⟩
  rcases h with h | h | h | ⟨q, e, h⟩
  · rw [h] at c1; cases c1
  · rw [h] at c2; cases c2
  · have h3 : (shP S lf ned g n).2 ≤ ned := by
      rw [(shP_v n).1]
      cases e : (shP S lf ned g n).1 with
      | none => exact Int32.le_refl _
      | some q => exact Int32.le_of_lt ((shP_v n).2 q e)
    exact Int32.lt_irrefl (Int32.lt_of_lt_of_le c3 (Int32.le_trans h3 h))
  · rw [(shP_v n).1, e] at c3
    exact Int32.lt_irrefl (Int32.lt_of_lt_of_le c3 h)
theorem sN_sub {S : sS} {r s : Nat} (h : s ≤ r) : nI (r - s) = nI r - nI s := (pk_sub h).symm
theorem has_1 {p : Bool} (h : bI p ≠ nI 1) : p = false := by
  cases p with
  | true => exact absurd rfl h
  | false => rfl
theorem has_2 {p : Bool} (h : bI p = nI 1) : p = true := by
  cases p with
  | true => rfl
  | false => exact absurd h (by decide)
theorem nX8_firstOf_X8 : ∀ w ∈ wsX80, w ∈ wsX8_firstOf := by decide +kernel
set_option maxHeartbeats 4000000 in
set_option maxRecDepth 100000 in
theorem c_X8_firstOf (l : Launch) (mo : Nat) (A S : sS) (b : Nat) (σ : gS) (sz : Nat) (hMo : MoAt σ mo A) (hR : Rr S (A 1)) (hb0 : b < sB S) (hB : sB S ≤ 96) : gM l yX8_firstOf wsX8_firstOf ({ frames := 1, cells := 0, slots := 0, locals := 21 } : Room) 0 0 [.ref mo, .int (nI b)] σ sz (gi (firstI S b) σ sz) := by
  refine gM_of (cc := cX8_firstOf) (maxL := 3) (ret := (some .int)) (by decide) rfl (Nat.le_of_ble_eq_true rfl) ?_
  intro D ka lo hL hlo p e s m below meth c hx hb hr hts hown hml hlk hnm hK H locs ls hz hP hS hl
  have hl : lv_has ls 3 [(0, .ref mo), (1, .int (nI b))] := hl
  have hown : s.vm.findClass RX8 = some m.cls := hown
  refine lv_aload_n hx hb dX8_firstOf_0 rfl (lv_at hl 0 rfl) ?_
  refine lv_iload_n hx hb dX8_firstOf_1 rfl (lv_at hl 1 rfl) ?_
  refine g_runV (As := [.int (nI b)]) (rest := []) (own := RX8) (C := RX8) (T := TX8) (N := 20) 1 hx hb hml hown hts hK hz hP hL hS hlo hl.1 (c_X8_isRest l mo A S b σ sz hMo hR (by omega) (by omega)) gX8_firstOf_X8_isRest rfl rfl rfl (by decide +kernel) ⟨Nat.le_of_ble_eq_true rfl, Nat.le_of_ble_eq_true rfl⟩ hMo.c0 rfl rfl rfl (Nat.le_of_ble_eq_true rfl) dX8_firstOf_2 ⟨Nat.le_of_ble_eq_true rfl, Nat.le_of_ble_eq_true rfl⟩ (g_ki0 (fun H locs hz hP hL hS => ?_))
  refine g_ifb_eq (tgt := 11) hx hb dX8_firstOf_5 (by decide) (fun c5 => ?_) (fun c5 => ?_)
  · refine lv_iload_n hx hb dX8_firstOf_11 rfl (lv_at hl 1 rfl) ?_
    refine lv_istore_n (lv' := [(2, .int (nI b)), (0, .ref mo), (1, .int (nI b))]) hx hb dX8_firstOf_12 rfl hl (by decide) rfl (fun ls hl => ?_)
    have lp : ∀ (fu_lp : Nat) (f : Nat), (f ≤ b) → (sylF S f = sylF S b) → (f < fu_lp) → ∀ (H : Heap) (locs : List Loc) (ls : Array Slot), H.size = sz → gH D ka σ H → va_S (gA lo) s.heap H locs → lv_has ls 3 [(0, .ref mo), (1, .int (nI b)), (2, .int (nI f))] → W p l e ({ frames := 1, cells := 0, slots := 0, locals := 21 } : Room) s m ([.ref mo, .int (nI b)] : List Value).toArray below meth c H locs (0) (0) (MQ below (gQ D ka lo (gi (firstI S b) σ sz)) ([.ref mo, .int (nI b)] : List Value).toArray s 0 0 (gA lo)) (F0 m 13 ls []) := by
      intro fu_lp
      induction fu_lp with
      | zero => intro f hf hs hm_lp; exact absurd hm_lp (Nat.not_lt_zero _)
      | succ fu_lp ih_lp =>
        intro f hf hs hm_lp H locs ls hz hP hS hl
        refine lv_aload_n hx hb dX8_firstOf_13 rfl (lv_at hl 0 rfl) ?_
        refine g_get (C := RX8) (T := TX8) (N := 20) hx hb hts hown hK hP hMo.c0 nX8_firstOf_X8 rfl 0 (by decide) (by decide +kernel) rfl (v := .ref (mo + 1)) rfl dX8_firstOf_14 ?_
        refine lv_iconst (v := (nI 4)) hx hb dX8_firstOf_17 (by decide) ?_
        refine lv_iload_n hx hb dX8_firstOf_18 rfl (lv_at hl 2 rfl) ?_
        refine lv_iadd hx hb dX8_firstOf_19 ?_
        refine g_top (nI_add 4 f) ?_
        refine g_iald hx hb hK hP hMo.c1 (i := nI (4 + f)) (vp_in_nI (by omega) (by omega)) dX8_firstOf_20 ?_
        rw [nI_clamp (n := 4 + f) (by omega)]
        refine g_top (y := (S 0 f)) (hR.so (by omega)) ?_
        refine lv_iconst (v := (nI 1)) hx hb dX8_firstOf_21 (by decide) ?_
        refine lv_icmp_ne (tgt := 45) hx hb dX8_firstOf_22 (by decide) (fun c22 => ?_) (fun c22 => ?_)
        · refine lv_iload_n hx hb dX8_firstOf_45 rfl (lv_at hl 2 rfl) ?_
          exact g_iret (z := sz) hx hb hr hlk hz hP hL hS dX8_firstOf_46 (gi_i (by rw [firstI_n c5, ← hs, sylF_1 c22]) rfl)
        · refine lv_iload_n hx hb dX8_firstOf_25 rfl (lv_at hl 2 rfl) ?_
          refine g_if_le (tgt := 45) hx hb (by omega) dX8_firstOf_26 (by decide) (fun c26 => ?_) (fun c26 => ?_)
          · refine lv_iload_n hx hb dX8_firstOf_45 rfl (lv_at hl 2 rfl) ?_
            exact g_iret (z := sz) hx hb hr hlk hz hP hL hS dX8_firstOf_46 (gi_i (by rw [firstI_n c5, ← hs, show f = 0 by omega]; rfl) rfl)
          · refine lv_aload_n hx hb dX8_firstOf_29 rfl (lv_at hl 0 rfl) ?_
            refine lv_iload_n hx hb dX8_firstOf_30 rfl (lv_at hl 2 rfl) ?_
            refine lv_iconst (v := (nI 1)) hx hb dX8_firstOf_31 (by decide) ?_
            refine lv_isub hx hb dX8_firstOf_32 ?_
            refine g_top (pk_sub (by omega : 1 ≤ f)) ?_
            refine g_runV (As := [.int (nI (f - 1))]) (rest := []) (own := RX8) (C := RX8) (T := TX8) (N := 20) 1 hx hb hml hown hts hK hz hP hL hS hlo hl.1 (c_X8_isRest l mo A S (f - 1) σ sz hMo hR (by omega) (by omega)) gX8_firstOf_X8_isRest rfl rfl rfl (by decide +kernel) ⟨Nat.le_of_ble_eq_true rfl, Nat.le_of_ble_eq_true rfl⟩ hMo.c0 rfl rfl rfl (Nat.le_of_ble_eq_true rfl) dX8_firstOf_33 ⟨Nat.le_of_ble_eq_true rfl, Nat.le_of_ble_eq_true rfl⟩ (g_ki0 (fun H locs hz hP hL hS => ?_))
            refine g_ifb_ne (tgt := 45) hx hb dX8_firstOf_36 (by decide) (fun c36 => ?_) (fun c36 => ?_)
            · refine lv_iload_n hx hb dX8_firstOf_45 rfl (lv_at hl 2 rfl) ?_
              exact g_iret (z := sz) hx hb hr hlk hz hP hL hS dX8_firstOf_46 (gi_i (by rw [firstI_n c5, ← hs, sylF_2 (by omega) c36]) rfl)
            · refine lv_iinc (v := (nI (f - 1))) (lv' := [(2, .int (nI (f - 1))), (0, .ref mo), (1, .int (nI b))]) hx hb dX8_firstOf_39 hl (k := 2) rfl (g_dec (by omega)) (by decide) rfl (fun ls hl => ?_)
              refine lv_goto (tgt := 13) hx hb dX8_firstOf_42 (by decide) ?_
              exact ih_lp (f - 1) (by omega) ((sylF_s (by omega) c22 c36).trans hs) (by omega) H locs ls hz hP hS (lv_sub hl [1, 2, 0] rfl)
    exact lp _ b (Nat.le_refl _) rfl (Nat.lt_succ_self _) H locs ls hz hP hS (lv_sub hl [1, 2, 0] rfl)
  · refine lv_bipush (v := (-5)) hx hb dX8_firstOf_8 (by decide) ?_
    exact g_iret (z := sz) hx hb hr hlk hz hP hL hS dX8_firstOf_10 (gi_i (firstI_r c5).symm rfl)

set_option maxHeartbeats 4000000 in
set_option maxRecDepth 100000 in
theorem c_X8_presentOnes (l : Launch) (mo : Nat) (A S : sS) (σ : gS) (sz : Nat) (hMo : MoAt σ mo A) (hR : Rr S (A 1)) (hN : sN S ≤ 12) : gM l yX8_presentOnes wsX8_presentOnes ({ frames := 1, cells := 0, slots := 0, locals := 22 } : Room) 0 0 [.ref mo] σ sz (gi (nI (cntF (presB S) (sN S))) σ sz) := by
  refine gM_of (cc := cX8_presentOnes) (maxL := 3) (ret := (some .int)) (by decide) rfl (Nat.le_of_ble_eq_true rfl) ?_
  intro D ka lo hL hlo p e s m below meth c hx hb hr hts hown hml hlk hnm hK H locs ls hz hP hS hl
  have hl : lv_has ls 3 [(0, .ref mo)] := hl
  have hown : s.vm.findClass RX8 = some m.cls := hown
  refine lv_iconst (v := (nI 0)) hx hb dX8_presentOnes_0 (by decide) ?_
  refine lv_istore_n (lv' := [(1, .int (nI 0)), (0, .ref mo)]) hx hb dX8_presentOnes_1 rfl hl (by decide) rfl (fun ls hl => ?_)
  refine lv_iconst (v := (nI 0)) hx hb dX8_presentOnes_2 (by decide) ?_
  refine lv_istore_n (lv' := [(2, .int (nI 0)), (1, .int (nI 0)), (0, .ref mo)]) hx hb dX8_presentOnes_3 rfl hl (by decide) rfl (fun ls hl => ?_)
  have lp : ∀ (fu_lp : Nat) (k : Nat), (k ≤ sN S) → (sN S - k < fu_lp) → ∀ (H : Heap) (locs : List Loc) (ls : Array Slot), H.size = sz → gH D ka σ H → va_S (gA lo) s.heap H locs → lv_has ls 3 [(0, .ref mo), (1, .int (nI (cntF (presB S) k))), (2, .int (nI k))] → W p l e ({ frames := 1, cells := 0, slots := 0, locals := 22 } : Room) s m ([.ref mo] : List Value).toArray below meth c H locs (0) (0) (MQ below (gQ D ka lo (gi (nI (cntF (presB S) (sN S))) σ sz)) ([.ref mo] : List Value).toArray s 0 0 (gA lo)) (F0 m 4 ls []) := by
    intro fu_lp
    induction fu_lp with
    | zero => intro k hk hm_lp; exact absurd hm_lp (Nat.not_lt_zero _)
    | succ fu_lp ih_lp =>
      intro k hk hm_lp H locs ls hz hP hS hl
      refine lv_iload_n hx hb dX8_presentOnes_4 rfl (lv_at hl 2 rfl) ?_
      refine lv_aload_n hx hb dX8_presentOnes_5 rfl (lv_at hl 0 rfl) ?_
      refine g_runV (As := []) (rest := [.int (nI k)]) (own := RX8) (C := RX8) (T := TX8) (N := 20) 0 hx hb hml hown hts hK hz hP hL hS hlo hl.1 (c_X8_singers l mo A S  σ sz hMo hR) gX8_presentOnes_X8_singers rfl rfl rfl (by decide +kernel) ⟨Nat.le_of_ble_eq_true rfl, Nat.le_of_ble_eq_true rfl⟩ hMo.c0 rfl rfl rfl (Nat.le_of_ble_eq_true rfl) dX8_presentOnes_6 ⟨Nat.le_of_ble_eq_true rfl, Nat.le_of_ble_eq_true rfl⟩ (g_ki0 (fun H locs hz hP hL hS => ?_))
      refine g_icmp_ge (tgt := 27) (a := k) (b := sN S) hx hb (by omega) (by omega) dX8_presentOnes_9 (by decide) (fun c9 => ?_) (fun c9 => ?_)
      · refine lv_iload_n hx hb dX8_presentOnes_27 rfl (lv_at hl 1 rfl) ?_
        exact g_iret (z := sz) hx hb hr hlk hz hP hL hS dX8_presentOnes_28 (gi_i (by rw [show k = sN S by omega]) rfl)
      · refine lv_iload_n hx hb dX8_presentOnes_12 rfl (lv_at hl 1 rfl) ?_
        refine lv_aload_n hx hb dX8_presentOnes_13 rfl (lv_at hl 0 rfl) ?_
        refine lv_iload_n hx hb dX8_presentOnes_14 rfl (lv_at hl 2 rfl) ?_
        refine lv_iconst (v := (nI 2)) hx hb dX8_presentOnes_15 (by decide) ?_
        refine g_runV (As := [.int (nI k), .int (nI 2)]) (rest := [.int (nI (cntF (presB S) k))]) (own := RX8) (C := RX8) (T := TX8) (N := 20) 2 hx hb hml hown hts hK hz hP hL hS hlo hl.1 (c_X8_of l mo A S k 2 σ sz hMo hR (by omega) (by omega) (by omega)) gX8_presentOnes_X8_of rfl rfl rfl (by decide +kernel) ⟨Nat.le_of_ble_eq_true rfl, Nat.le_of_ble_eq_true rfl⟩ hMo.c0 rfl rfl rfl (Nat.le_of_ble_eq_true rfl) dX8_presentOnes_16 ⟨Nat.le_of_ble_eq_true rfl, Nat.le_of_ble_eq_true rfl⟩ (g_ki0 (fun H locs hz hP hL hS => ?_))
        refine lv_iadd hx hb dX8_presentOnes_19 ?_
        refine lv_istore_n (lv' := [(1, .int ((nI (cntF (presB S) k)) + (bI (presB S k)))), (0, .ref mo), (2, .int (nI k))]) hx hb dX8_presentOnes_20 rfl hl (by decide) rfl (fun ls hl => ?_)
        refine lv_iinc (v := (nI (k + 1))) (lv' := [(2, .int (nI (k + 1))), (1, .int ((nI (cntF (presB S) k)) + (bI (presB S k)))), (0, .ref mo)]) hx hb dX8_presentOnes_21 hl (k := 2) rfl (g_inc k 1) (by decide) rfl (fun ls hl => ?_)
        refine lv_goto (tgt := 4) hx hb dX8_presentOnes_24 (by decide) ?_
        have e_1 : ((nI (cntF (presB S) k)) + (bI (presB S k))) = (nI (cntF (presB S) (k + 1))) := bI_add
        have hl := lv_sub hl (l' := [(0, .ref mo), (1, .int ((nI (cntF (presB S) k)) + (bI (presB S k)))), (2, .int (nI (k + 1)))]) [2, 1, 0] rfl
        rw [e_1] at hl
        exact ih_lp (k + 1) (by omega) (by omega) H locs ls hz hP hS hl
  exact lp _ 0 (by omega) (Nat.lt_succ_self _) H locs ls hz hP hS (lv_sub hl [2, 1, 0] rfl)

set_option maxHeartbeats 4000000 in
set_option maxRecDepth 100000 in
theorem c_X8_soloAt (l : Launch) (mo : Nat) (A S : sS) (b : Nat) (σ : gS) (sz : Nat) (hMo : MoAt σ mo A) (hR : Rr S (A 1)) (hKs : sK S ≤ 8) : gM l yX8_soloAt wsX8_soloAt ({ frames := 1, cells := 0, slots := 0, locals := 22 } : Room) 0 0 [.ref mo, .int (nI b)] σ sz (gi (oI (soloF S b)) σ sz) := by
  refine gM_of (cc := cX8_soloAt) (maxL := 3) (ret := (some .int)) (by decide) rfl (Nat.le_of_ble_eq_true rfl) ?_
  intro D ka lo hL hlo p e s m below meth c hx hb hr hts hown hml hlk hnm hK H locs ls hz hP hS hl
  have hl : lv_has ls 3 [(0, .ref mo), (1, .int (nI b))] := hl
  have hown : s.vm.findClass RX8 = some m.cls := hown
  refine lv_iconst (v := (nI 0)) hx hb dX8_soloAt_0 (by decide) ?_
  refine lv_istore_n (lv' := [(2, .int (nI 0)), (0, .ref mo), (1, .int (nI b))]) hx hb dX8_soloAt_1 rfl hl (by decide) rfl (fun ls hl => ?_)
  have lp : ∀ (fu_lp : Nat) (k : Nat), (k ≤ sK S) → (firstK (cov S b) (sK S - k) k = firstK (cov S b) (sK S) 0) → (sK S - k < fu_lp) → ∀ (H : Heap) (locs : List Loc) (ls : Array Slot), H.size = sz → gH D ka σ H → va_S (gA lo) s.heap H locs → lv_has ls 3 [(0, .ref mo), (1, .int (nI b)), (2, .int (nI k))] → W p l e ({ frames := 1, cells := 0, slots := 0, locals := 22 } : Room) s m ([.ref mo, .int (nI b)] : List Value).toArray below meth c H locs (0) (0) (MQ below (gQ D ka lo (gi (oI (soloF S b)) σ sz)) ([.ref mo, .int (nI b)] : List Value).toArray s 0 0 (gA lo)) (F0 m 2 ls []) := by
    intro fu_lp
    induction fu_lp with
    | zero => intro k hk hs hm_lp; exact absurd hm_lp (Nat.not_lt_zero _)
    | succ fu_lp ih_lp =>
      intro k hk hs hm_lp H locs ls hz hP hS hl
      refine lv_iload_n hx hb dX8_soloAt_2 rfl (lv_at hl 2 rfl) ?_
      refine lv_aload_n hx hb dX8_soloAt_3 rfl (lv_at hl 0 rfl) ?_
      refine g_runV (As := []) (rest := [.int (nI k)]) (own := RX8) (C := RX8) (T := TX8) (N := 20) 0 hx hb hml hown hts hK hz hP hL hS hlo hl.1 (c_X8_solos l mo A S  σ sz hMo hR) gX8_soloAt_X8_solos rfl rfl rfl (by decide +kernel) ⟨Nat.le_of_ble_eq_true rfl, Nat.le_of_ble_eq_true rfl⟩ hMo.c0 rfl rfl rfl (Nat.le_of_ble_eq_true rfl) dX8_soloAt_4 ⟨Nat.le_of_ble_eq_true rfl, Nat.le_of_ble_eq_true rfl⟩ (g_ki0 (fun H locs hz hP hL hS => ?_))
      refine g_icmp_ge (tgt := 37) (a := k) (b := sK S) hx hb (by omega) (by omega) dX8_soloAt_7 (by decide) (fun c7 => ?_) (fun c7 => ?_)
      · refine lv_bipush (v := (-5)) hx hb dX8_soloAt_37 (by decide) ?_
        exact g_iret (z := sz) hx hb hr hlk hz hP hL hS dX8_soloAt_39 (gi_i (by rw [soloF, ← hs, fK_e (by omega)]; rfl) rfl)
      · refine lv_iload_n hx hb dX8_soloAt_10 rfl (lv_at hl 1 rfl) ?_
        refine lv_aload_n hx hb dX8_soloAt_11 rfl (lv_at hl 0 rfl) ?_
        refine lv_iload_n hx hb dX8_soloAt_12 rfl (lv_at hl 2 rfl) ?_
        refine lv_iconst (v := (nI 1)) hx hb dX8_soloAt_13 (by decide) ?_
        refine g_runV (As := [.int (nI k), .int (nI 1)]) (rest := [.int (nI b)]) (own := RX8) (C := RX8) (T := TX8) (N := 20) 2 hx hb hml hown hts hK hz hP hL hS hlo hl.1 (c_X8_soloOf l mo A S k 1 σ sz hMo hR (by omega) (by omega) (by omega)) gX8_soloAt_X8_soloOf rfl rfl rfl (by decide +kernel) ⟨Nat.le_of_ble_eq_true rfl, Nat.le_of_ble_eq_true rfl⟩ hMo.c0 rfl rfl rfl (Nat.le_of_ble_eq_true rfl) dX8_soloAt_14 ⟨Nat.le_of_ble_eq_true rfl, Nat.le_of_ble_eq_true rfl⟩ (g_ki0 (fun H locs hz hP hL hS => ?_))
        refine lv_aload_n hx hb dX8_soloAt_17 rfl (lv_at hl 0 rfl) ?_
        refine lv_iload_n hx hb dX8_soloAt_18 rfl (lv_at hl 2 rfl) ?_
        refine lv_iconst (v := (nI 2)) hx hb dX8_soloAt_19 (by decide) ?_
        refine g_runV (As := [.int (nI k), .int (nI 2)]) (rest := [.int (S 6 k), .int (nI b)]) (own := RX8) (C := RX8) (T := TX8) (N := 20) 2 hx hb hml hown hts hK hz hP hL hS hlo hl.1 (c_X8_soloOf l mo A S k 2 σ sz hMo hR (by omega) (by omega) (by omega)) gX8_soloAt_X8_soloOf rfl rfl rfl (by decide +kernel) ⟨Nat.le_of_ble_eq_true rfl, Nat.le_of_ble_eq_true rfl⟩ hMo.c0 rfl rfl rfl (Nat.le_of_ble_eq_true rfl) dX8_soloAt_20 ⟨Nat.le_of_ble_eq_true rfl, Nat.le_of_ble_eq_true rfl⟩ (g_ki0 (fun H locs hz hP hL hS => ?_))
        refine g_runS (As := [.int (nI b), .int (S 6 k), .int (S 7 k)]) (rest := []) (own := RX8) 3 hx hb hml hown hts hK hz hP hL hS hlo hl.1 (c_X8_in l ((nI b)) ((S 6 k)) ((S 7 k)) σ sz) gX8_soloAt_X8_in rfl rfl rfl (by decide +kernel) ⟨Nat.le_of_ble_eq_true rfl, Nat.le_of_ble_eq_true rfl⟩ rfl rfl (Nat.le_of_ble_eq_true rfl) dX8_soloAt_23 ⟨Nat.le_of_ble_eq_true rfl, Nat.le_of_ble_eq_true rfl⟩ (g_ki0 (fun H locs hz hP hL hS => ?_))
        refine g_ifb_eq (tgt := 31) hx hb dX8_soloAt_26 (by decide) (fun c26 => ?_) (fun c26 => ?_)
        · refine lv_iinc (v := (nI (k + 1))) (lv' := [(2, .int (nI (k + 1))), (0, .ref mo), (1, .int (nI b))]) hx hb dX8_soloAt_31 hl (k := 2) rfl (g_inc k 1) (by decide) rfl (fun ls hl => ?_)
          refine lv_goto (tgt := 2) hx hb dX8_soloAt_34 (by decide) ?_
          exact ih_lp (k + 1) (by omega) ((fK_s (p := cov S b) (by omega) c26).trans hs) (by omega) H locs ls hz hP hS (lv_sub hl [1, 2, 0] rfl)
        · refine lv_iload_n hx hb dX8_soloAt_29 rfl (lv_at hl 2 rfl) ?_
          exact g_iret (z := sz) hx hb hr hlk hz hP hL hS dX8_soloAt_30 (gi_i (by rw [soloF, ← hs, fK_y (by omega) c26]; rfl) rfl)
  exact lp _ 0 (by omega) rfl (Nat.lt_succ_self _) H locs ls hz hP hS (lv_sub hl [1, 2, 0] rfl)

set_option maxHeartbeats 4000000 in
set_option maxRecDepth 100000 in
theorem c_X8_marksOf (l : Launch) (mo : Nat) (A S : sS) (i : Nat) (σ : gS) (sz : Nat) (hMo : MoAt σ mo A) (hR : Rr S (A 1)) (hi0 : i < sN S) (hN : sN S ≤ 12) (hB : sB S ≤ 96) : gM l yX8_marksOf wsX8_marksOf ({ frames := 1, cells := 0, slots := 0, locals := 22 } : Room) 0 0 [.ref mo, .int (nI i)] σ sz (gi (nI (cntF (fun b => markB S i b) (sB S))) σ sz) := by
  refine gM_of (cc := cX8_marksOf) (maxL := 4) (ret := (some .int)) (by decide) rfl (Nat.le_of_ble_eq_true rfl) ?_
  intro D ka lo hL hlo p e s m below meth c hx hb hr hts hown hml hlk hnm hK H locs ls hz hP hS hl
  have hl : lv_has ls 4 [(0, .ref mo), (1, .int (nI i))] := hl
  have hown : s.vm.findClass RX8 = some m.cls := hown
  refine lv_iconst (v := (nI 0)) hx hb dX8_marksOf_0 (by decide) ?_
  refine lv_istore_n (lv' := [(2, .int (nI 0)), (0, .ref mo), (1, .int (nI i))]) hx hb dX8_marksOf_1 rfl hl (by decide) rfl (fun ls hl => ?_)
  refine lv_iconst (v := (nI 0)) hx hb dX8_marksOf_2 (by decide) ?_
  refine lv_istore_n (lv' := [(3, .int (nI 0)), (2, .int (nI 0)), (0, .ref mo), (1, .int (nI i))]) hx hb dX8_marksOf_3 rfl hl (by decide) rfl (fun ls hl => ?_)
  have lp : ∀ (fu_lp : Nat) (k : Nat), (k ≤ sB S) → (sB S - k < fu_lp) → ∀ (H : Heap) (locs : List Loc) (ls : Array Slot), H.size = sz → gH D ka σ H → va_S (gA lo) s.heap H locs → lv_has ls 4 [(0, .ref mo), (1, .int (nI i)), (2, .int (nI (cntF (fun b => markB S i b) k))), (3, .int (nI k))] → W p l e ({ frames := 1, cells := 0, slots := 0, locals := 22 } : Room) s m ([.ref mo, .int (nI i)] : List Value).toArray below meth c H locs (0) (0) (MQ below (gQ D ka lo (gi (nI (cntF (fun b => markB S i b) (sB S))) σ sz)) ([.ref mo, .int (nI i)] : List Value).toArray s 0 0 (gA lo)) (F0 m 4 ls []) := by
    intro fu_lp
    induction fu_lp with
    | zero => intro k hk hm_lp; exact absurd hm_lp (Nat.not_lt_zero _)
    | succ fu_lp ih_lp =>
      intro k hk hm_lp H locs ls hz hP hS hl
      refine lv_iload_n hx hb dX8_marksOf_4 rfl (lv_at hl 3 rfl) ?_
      refine lv_aload_n hx hb dX8_marksOf_5 rfl (lv_at hl 0 rfl) ?_
      refine g_runV (As := []) (rest := [.int (nI k)]) (own := RX8) (C := RX8) (T := TX8) (N := 20) 0 hx hb hml hown hts hK hz hP hL hS hlo hl.1 (c_X8_beats l mo A S  σ sz hMo hR) gX8_marksOf_X8_beats rfl rfl rfl (by decide +kernel) ⟨Nat.le_of_ble_eq_true rfl, Nat.le_of_ble_eq_true rfl⟩ hMo.c0 rfl rfl rfl (Nat.le_of_ble_eq_true rfl) dX8_marksOf_6 ⟨Nat.le_of_ble_eq_true rfl, Nat.le_of_ble_eq_true rfl⟩ (g_ki0 (fun H locs hz hP hL hS => ?_))
      refine g_icmp_ge (tgt := 35) (a := k) (b := sB S) hx hb (by omega) (by omega) dX8_marksOf_9 (by decide) (fun c9 => ?_) (fun c9 => ?_)
      · refine lv_iload_n hx hb dX8_marksOf_35 rfl (lv_at hl 2 rfl) ?_
        exact g_iret (z := sz) hx hb hr hlk hz hP hL hS dX8_marksOf_36 (gi_i (by rw [show k = sB S by omega]) rfl)
      · refine lv_iload_n hx hb dX8_marksOf_12 rfl (lv_at hl 2 rfl) ?_
        refine lv_aload_n hx hb dX8_marksOf_13 rfl (lv_at hl 0 rfl) ?_
        refine lv_iload_n hx hb dX8_marksOf_14 rfl (lv_at hl 1 rfl) ?_
        refine lv_iload_n hx hb dX8_marksOf_15 rfl (lv_at hl 3 rfl) ?_
        refine g_runV (As := [.int (nI i), .int (nI k)]) (rest := [.int (nI (cntF (fun b => markB S i b) k))]) (own := RX8) (C := RX8) (T := TX8) (N := 20) 2 hx hb hml hown hts hK hz hP hL hS hlo hl.1 (c_X8_isMarked l mo A S i k σ sz hMo hR (by omega) (by omega) (by omega) (by omega)) gX8_marksOf_X8_isMarked rfl rfl rfl (by decide +kernel) ⟨Nat.le_of_ble_eq_true rfl, Nat.le_of_ble_eq_true rfl⟩ hMo.c0 rfl rfl rfl (Nat.le_of_ble_eq_true rfl) dX8_marksOf_16 ⟨Nat.le_of_ble_eq_true rfl, Nat.le_of_ble_eq_true rfl⟩ (g_ki0 (fun H locs hz hP hL hS => ?_))
        refine g_ifb_eq (tgt := 26) hx hb dX8_marksOf_19 (by decide) (fun c19 => ?_) (fun c19 => ?_)
        · refine lv_iconst (v := (nI 0)) hx hb dX8_marksOf_26 (by decide) ?_
          refine lv_iadd hx hb dX8_marksOf_27 ?_
          refine g_top (nI_add (cntF (fun b => markB S i b) k) 0) ?_
          refine lv_istore_n (lv' := [(2, .int (nI ((cntF (fun b => markB S i b) k) + 0))), (0, .ref mo), (1, .int (nI i)), (3, .int (nI k))]) hx hb dX8_marksOf_28 rfl hl (by decide) rfl (fun ls hl => ?_)
          refine lv_iinc (v := (nI (k + 1))) (lv' := [(3, .int (nI (k + 1))), (2, .int (nI ((cntF (fun b => markB S i b) k) + 0))), (0, .ref mo), (1, .int (nI i))]) hx hb dX8_marksOf_29 hl (k := 3) rfl (g_inc k 1) (by decide) rfl (fun ls hl => ?_)
          refine lv_goto (tgt := 4) hx hb dX8_marksOf_32 (by decide) ?_
          have e_2 : (nI ((cntF (fun b => markB S i b) k) + 0)) = (nI (cntF (fun b => markB S i b) (k + 1))) := (congrArg nI (cntF_f (p := fun b => markB S i b) (c19)).symm)
          have hl := lv_sub hl (l' := [(0, .ref mo), (1, .int (nI i)), (2, .int (nI ((cntF (fun b => markB S i b) k) + 0))), (3, .int (nI (k + 1)))]) [2, 3, 1, 0] rfl
          rw [e_2] at hl
          exact ih_lp (k + 1) (by omega) (by omega) H locs ls hz hP hS hl
        · refine lv_iconst (v := (nI 1)) hx hb dX8_marksOf_22 (by decide) ?_
          refine lv_goto (tgt := 27) hx hb dX8_marksOf_23 (by decide) ?_
          refine lv_iadd hx hb dX8_marksOf_27 ?_
          refine g_top (nI_add (cntF (fun b => markB S i b) k) 1) ?_
          refine lv_istore_n (lv' := [(2, .int (nI ((cntF (fun b => markB S i b) k) + 1))), (0, .ref mo), (1, .int (nI i)), (3, .int (nI k))]) hx hb dX8_marksOf_28 rfl hl (by decide) rfl (fun ls hl => ?_)
          refine lv_iinc (v := (nI (k + 1))) (lv' := [(3, .int (nI (k + 1))), (2, .int (nI ((cntF (fun b => markB S i b) k) + 1))), (0, .ref mo), (1, .int (nI i))]) hx hb dX8_marksOf_29 hl (k := 3) rfl (g_inc k 1) (by decide) rfl (fun ls hl => ?_)
          refine lv_goto (tgt := 4) hx hb dX8_marksOf_32 (by decide) ?_
          have e_2 : (nI ((cntF (fun b => markB S i b) k) + 1)) = (nI (cntF (fun b => markB S i b) (k + 1))) := (congrArg nI (cntF_t (p := fun b => markB S i b) (c19)).symm)
          have hl := lv_sub hl (l' := [(0, .ref mo), (1, .int (nI i)), (2, .int (nI ((cntF (fun b => markB S i b) k) + 1))), (3, .int (nI (k + 1)))]) [2, 3, 1, 0] rfl
          rw [e_2] at hl
          exact ih_lp (k + 1) (by omega) (by omega) H locs ls hz hP hS hl
  exact lp _ 0 (by omega) (Nat.lt_succ_self _) H locs ls hz hP hS (lv_sub hl [2, 3, 1, 0] rfl)

set_option maxHeartbeats 4000000 in
set_option maxRecDepth 100000 in
theorem c_X8_allMarks (l : Launch) (mo : Nat) (A S : sS) (σ : gS) (sz : Nat) (hMo : MoAt σ mo A) (hR : Rr S (A 1)) (hN : sN S ≤ 12) (hB : sB S ≤ 96) : gM l yX8_allMarks wsX8_allMarks ({ frames := 2, cells := 0, slots := 0, locals := 45 } : Room) 0 0 [.ref mo] σ sz (gi (nI (suF (fun i => cntF (fun b => markB S i b) (sB S)) (sN S))) σ sz) := by
  refine gM_of (cc := cX8_allMarks) (maxL := 3) (ret := (some .int)) (by decide) rfl (Nat.le_of_ble_eq_true rfl) ?_
  intro D ka lo hL hlo p e s m below meth c hx hb hr hts hown hml hlk hnm hK H locs ls hz hP hS hl
  have hl : lv_has ls 3 [(0, .ref mo)] := hl
  have hown : s.vm.findClass RX8 = some m.cls := hown
  refine lv_iconst (v := (nI 0)) hx hb dX8_allMarks_0 (by decide) ?_
  refine lv_istore_n (lv' := [(1, .int (nI 0)), (0, .ref mo)]) hx hb dX8_allMarks_1 rfl hl (by decide) rfl (fun ls hl => ?_)
  refine lv_iconst (v := (nI 0)) hx hb dX8_allMarks_2 (by decide) ?_
  refine lv_istore_n (lv' := [(2, .int (nI 0)), (1, .int (nI 0)), (0, .ref mo)]) hx hb dX8_allMarks_3 rfl hl (by decide) rfl (fun ls hl => ?_)
  have lp : ∀ (fu_lp : Nat) (k : Nat), (k ≤ sN S) → (sN S - k < fu_lp) → ∀ (H : Heap) (locs : List Loc) (ls : Array Slot), H.size = sz → gH D ka σ H → va_S (gA lo) s.heap H locs → lv_has ls 3 [(0, .ref mo), (1, .int (nI (suF (fun i => cntF (fun b => markB S i b) (sB S)) k))), (2, .int (nI k))] → W p l e ({ frames := 2, cells := 0, slots := 0, locals := 45 } : Room) s m ([.ref mo] : List Value).toArray below meth c H locs (0) (0) (MQ below (gQ D ka lo (gi (nI (suF (fun i => cntF (fun b => markB S i b) (sB S)) (sN S))) σ sz)) ([.ref mo] : List Value).toArray s 0 0 (gA lo)) (F0 m 4 ls []) := by
    intro fu_lp
    induction fu_lp with
    | zero => intro k hk hm_lp; exact absurd hm_lp (Nat.not_lt_zero _)
    | succ fu_lp ih_lp =>
      intro k hk hm_lp H locs ls hz hP hS hl
      refine lv_iload_n hx hb dX8_allMarks_4 rfl (lv_at hl 2 rfl) ?_
      refine lv_aload_n hx hb dX8_allMarks_5 rfl (lv_at hl 0 rfl) ?_
      refine g_runV (As := []) (rest := [.int (nI k)]) (own := RX8) (C := RX8) (T := TX8) (N := 20) 0 hx hb hml hown hts hK hz hP hL hS hlo hl.1 (c_X8_singers l mo A S  σ sz hMo hR) gX8_allMarks_X8_singers rfl rfl rfl (by decide +kernel) ⟨Nat.le_of_ble_eq_true rfl, Nat.le_of_ble_eq_true rfl⟩ hMo.c0 rfl rfl rfl (Nat.le_of_ble_eq_true rfl) dX8_allMarks_6 ⟨Nat.le_of_ble_eq_true rfl, Nat.le_of_ble_eq_true rfl⟩ (g_ki0 (fun H locs hz hP hL hS => ?_))
      refine g_icmp_ge (tgt := 26) (a := k) (b := sN S) hx hb (by omega) (by omega) dX8_allMarks_9 (by decide) (fun c9 => ?_) (fun c9 => ?_)
      · refine lv_iload_n hx hb dX8_allMarks_26 rfl (lv_at hl 1 rfl) ?_
        exact g_iret (z := sz) hx hb hr hlk hz hP hL hS dX8_allMarks_27 (gi_i (by rw [show k = sN S by omega]) rfl)
      · refine lv_iload_n hx hb dX8_allMarks_12 rfl (lv_at hl 1 rfl) ?_
        refine lv_aload_n hx hb dX8_allMarks_13 rfl (lv_at hl 0 rfl) ?_
        refine lv_iload_n hx hb dX8_allMarks_14 rfl (lv_at hl 2 rfl) ?_
        refine g_runV (As := [.int (nI k)]) (rest := [.int (nI (suF (fun i => cntF (fun b => markB S i b) (sB S)) k))]) (own := RX8) (C := RX8) (T := TX8) (N := 20) 1 hx hb hml hown hts hK hz hP hL hS hlo hl.1 (c_X8_marksOf l mo A S k σ sz hMo hR (by omega) (by omega) (by omega)) gX8_allMarks_X8_marksOf rfl rfl rfl (by decide +kernel) ⟨Nat.le_of_ble_eq_true rfl, Nat.le_of_ble_eq_true rfl⟩ hMo.c0 rfl rfl rfl (Nat.le_of_ble_eq_true rfl) dX8_allMarks_15 ⟨Nat.le_of_ble_eq_true rfl, Nat.le_of_ble_eq_true rfl⟩ (g_ki0 (fun H locs hz hP hL hS => ?_))
        refine lv_iadd hx hb dX8_allMarks_18 ?_
        refine g_top (nI_add (suF (fun i => cntF (fun b => markB S i b) (sB S)) k) (cntF (fun b => markB S k b) (sB S))) ?_
        refine lv_istore_n (lv' := [(1, .int (nI ((suF (fun i => cntF (fun b => markB S i b) (sB S)) k) + (cntF (fun b => markB S k b) (sB S))))), (0, .ref mo), (2, .int (nI k))]) hx hb dX8_allMarks_19 rfl hl (by decide) rfl (fun ls hl => ?_)
        refine lv_iinc (v := (nI (k + 1))) (lv' := [(2, .int (nI (k + 1))), (1, .int (nI ((suF (fun i => cntF (fun b => markB S i b) (sB S)) k) + (cntF (fun b => markB S k b) (sB S))))), (0, .ref mo)]) hx hb dX8_allMarks_20 hl (k := 2) rfl (g_inc k 1) (by decide) rfl (fun ls hl => ?_)
        refine lv_goto (tgt := 4) hx hb dX8_allMarks_23 (by decide) ?_
        have e_1 : (nI ((suF (fun i => cntF (fun b => markB S i b) (sB S)) k) + (cntF (fun b => markB S k b) (sB S)))) = (nI (suF (fun i => cntF (fun b => markB S i b) (sB S)) (k + 1))) := rfl
        have hl := lv_sub hl (l' := [(0, .ref mo), (1, .int (nI ((suF (fun i => cntF (fun b => markB S i b) (sB S)) k) + (cntF (fun b => markB S k b) (sB S))))), (2, .int (nI (k + 1)))]) [2, 1, 0] rfl
        rw [e_1] at hl
        exact ih_lp (k + 1) (by omega) (by omega) H locs ls hz hP hS hl
  exact lp _ 0 (by omega) (Nat.lt_succ_self _) H locs ls hz hP hS (lv_sub hl [2, 1, 0] rfl)

set_option maxHeartbeats 4000000 in
set_option maxRecDepth 100000 in
theorem c_X8_hasTo (l : Launch) (mo : Nat) (A S : sS) (i b : Nat) (σ : gS) (sz : Nat) (hMo : MoAt σ mo A) (hR : Rr S (A 1)) (hi0 : i < sN S) (hN : sN S ≤ 12) (hb0 : b < sB S) (hB : sB S ≤ 96) (hKs : sK S ≤ 8) : gM l yX8_hasTo wsX8_hasTo ({ frames := 2, cells := 0, slots := 0, locals := 44 } : Room) 0 0 [.ref mo, .int (nI i), .int (nI b)] σ sz (gi (bI (toSing S i b)) σ sz) := by
  refine gM_of (cc := cX8_hasTo) (maxL := 4) (ret := (some .boolean)) (by decide) rfl (Nat.le_of_ble_eq_true rfl) ?_
  intro D ka lo hL hlo p e s m below meth c hx hb hr hts hown hml hlk hnm hK H locs ls hz hP hS hl
  have hl : lv_has ls 4 [(0, .ref mo), (1, .int (nI i)), (2, .int (nI b))] := hl
  have hown : s.vm.findClass RX8 = some m.cls := hown
  refine lv_aload_n hx hb dX8_hasTo_0 rfl (lv_at hl 0 rfl) ?_
  refine lv_iload_n hx hb dX8_hasTo_1 rfl (lv_at hl 2 rfl) ?_
  refine g_runV (As := [.int (nI b)]) (rest := []) (own := RX8) (C := RX8) (T := TX8) (N := 20) 1 hx hb hml hown hts hK hz hP hL hS hlo hl.1 (c_X8_soloAt l mo A S b σ sz hMo hR (by omega)) gX8_hasTo_X8_soloAt rfl rfl rfl (by decide +kernel) ⟨Nat.le_of_ble_eq_true rfl, Nat.le_of_ble_eq_true rfl⟩ hMo.c0 rfl rfl rfl (Nat.le_of_ble_eq_true rfl) dX8_hasTo_2 ⟨Nat.le_of_ble_eq_true rfl, Nat.le_of_ble_eq_true rfl⟩ (g_ki0 (fun H locs hz hP hL hS => ?_))
  rcases hso : soloF S b with _ | so
  · refine g_top (y := (-5)) rfl ?_
    refine lv_istore_n (lv' := [(3, .int (-5)), (0, .ref mo), (1, .int (nI i)), (2, .int (nI b))]) hx hb dX8_hasTo_5 rfl hl (by decide) rfl (fun ls hl => ?_)
    refine lv_aload_n hx hb dX8_hasTo_6 rfl (lv_at hl 1 rfl) ?_
    refine lv_iload_n hx hb dX8_hasTo_7 rfl (lv_at hl 3 rfl) ?_
    refine g_runV (As := [.int (nI b)]) (rest := []) (own := RX8) (C := RX8) (T := TX8) (N := 20) 1 hx hb hml hown hts hK hz hP hL hS hlo hl.1 (c_X8_isRest l mo A S b σ sz hMo hR (by omega) (by omega)) gX8_hasTo_X8_isRest rfl rfl rfl (by decide +kernel) ⟨Nat.le_of_ble_eq_true rfl, Nat.le_of_ble_eq_true rfl⟩ hMo.c0 rfl rfl rfl (Nat.le_of_ble_eq_true rfl) dX8_hasTo_8 ⟨Nat.le_of_ble_eq_true rfl, Nat.le_of_ble_eq_true rfl⟩ (g_ki0 (fun H locs hz hP hL hS => ?_))
    refine g_ifb_ne (tgt := 42) hx hb dX8_hasTo_11 (by decide) (fun c11 => ?_) (fun c11 => ?_)
    · refine lv_iconst (v := (nI 0)) hx hb dX8_hasTo_42 (by decide) ?_
      exact g_zret (z := sz) hx hb hr hlk hz hP hL hS rfl dX8_hasTo_43 (gi_i (by rw [toSing, c11]; rfl) rfl)
    · refine lv_aload_n hx hb dX8_hasTo_14 rfl (lv_at hl 1 rfl) ?_
      refine lv_iload_n hx hb dX8_hasTo_15 rfl (lv_at hl 2 rfl) ?_
      refine lv_iconst (v := (nI 2)) hx hb dX8_hasTo_16 (by decide) ?_
      refine g_runV (As := [.int (nI i), .int (nI 2)]) (rest := []) (own := RX8) (C := RX8) (T := TX8) (N := 20) 2 hx hb hml hown hts hK hz hP hL hS hlo hl.1 (c_X8_of l mo A S i 2 σ sz hMo hR (by omega) (by omega) (by omega)) gX8_hasTo_X8_of rfl rfl rfl (by decide +kernel) ⟨Nat.le_of_ble_eq_true rfl, Nat.le_of_ble_eq_true rfl⟩ hMo.c0 rfl rfl rfl (Nat.le_of_ble_eq_true rfl) dX8_hasTo_17 ⟨Nat.le_of_ble_eq_true rfl, Nat.le_of_ble_eq_true rfl⟩ (g_ki0 (fun H locs hz hP hL hS => ?_))
      refine lv_iconst (v := (nI 1)) hx hb dX8_hasTo_20 (by decide) ?_
      refine lv_icmp_ne (tgt := 42) hx hb dX8_hasTo_21 (by decide) (fun c21 => ?_) (fun c21 => ?_)
      · refine lv_iconst (v := (nI 0)) hx hb dX8_hasTo_42 (by decide) ?_
        exact g_zret (z := sz) hx hb hr hlk hz hP hL hS rfl dX8_hasTo_43 (gi_i (by rw [toSing, c11, has_1 c21]; rfl) rfl)
      · refine lv_iload_n hx hb dX8_hasTo_24 rfl (lv_at hl 0 rfl) ?_
        refine lv_if_lt (tgt := 38) hx hb dX8_hasTo_25 (by decide) (fun c25 => ?_) (fun c25 => absurd (by decide) c25)
        refine lv_iconst (v := (nI 1)) hx hb dX8_hasTo_38 (by decide) ?_
        refine lv_goto (tgt := 43) hx hb dX8_hasTo_39 (by decide) ?_
        exact g_zret (z := sz) hx hb hr hlk hz hP hL hS rfl dX8_hasTo_43 (gi_i (by rw [toSing, soloOk, c11, has_2 c21, hso]; rfl) rfl)
  · refine g_top (y := (nI so)) rfl ?_
    have hso2 := soloF_lt hso
    refine lv_istore_n (lv' := [(3, .int (nI so)), (0, .ref mo), (1, .int (nI i)), (2, .int (nI b))]) hx hb dX8_hasTo_5 rfl hl (by decide) rfl (fun ls hl => ?_)
    refine lv_aload_n hx hb dX8_hasTo_6 rfl (lv_at hl 1 rfl) ?_
    refine lv_iload_n hx hb dX8_hasTo_7 rfl (lv_at hl 3 rfl) ?_
    refine g_runV (As := [.int (nI b)]) (rest := []) (own := RX8) (C := RX8) (T := TX8) (N := 20) 1 hx hb hml hown hts hK hz hP hL hS hlo hl.1 (c_X8_isRest l mo A S b σ sz hMo hR (by omega) (by omega)) gX8_hasTo_X8_isRest rfl rfl rfl (by decide +kernel) ⟨Nat.le_of_ble_eq_true rfl, Nat.le_of_ble_eq_true rfl⟩ hMo.c0 rfl rfl rfl (Nat.le_of_ble_eq_true rfl) dX8_hasTo_8 ⟨Nat.le_of_ble_eq_true rfl, Nat.le_of_ble_eq_true rfl⟩ (g_ki0 (fun H locs hz hP hL hS => ?_))
    refine g_ifb_ne (tgt := 42) hx hb dX8_hasTo_11 (by decide) (fun c11 => ?_) (fun c11 => ?_)
    · refine lv_iconst (v := (nI 0)) hx hb dX8_hasTo_42 (by decide) ?_
      exact g_zret (z := sz) hx hb hr hlk hz hP hL hS rfl dX8_hasTo_43 (gi_i (by rw [toSing, c11]; rfl) rfl)
    · refine lv_aload_n hx hb dX8_hasTo_14 rfl (lv_at hl 1 rfl) ?_
      refine lv_iload_n hx hb dX8_hasTo_15 rfl (lv_at hl 2 rfl) ?_
      refine lv_iconst (v := (nI 2)) hx hb dX8_hasTo_16 (by decide) ?_
      refine g_runV (As := [.int (nI i), .int (nI 2)]) (rest := []) (own := RX8) (C := RX8) (T := TX8) (N := 20) 2 hx hb hml hown hts hK hz hP hL hS hlo hl.1 (c_X8_of l mo A S i 2 σ sz hMo hR (by omega) (by omega) (by omega)) gX8_hasTo_X8_of rfl rfl rfl (by decide +kernel) ⟨Nat.le_of_ble_eq_true rfl, Nat.le_of_ble_eq_true rfl⟩ hMo.c0 rfl rfl rfl (Nat.le_of_ble_eq_true rfl) dX8_hasTo_17 ⟨Nat.le_of_ble_eq_true rfl, Nat.le_of_ble_eq_true rfl⟩ (g_ki0 (fun H locs hz hP hL hS => ?_))
      refine lv_iconst (v := (nI 1)) hx hb dX8_hasTo_20 (by decide) ?_
      refine lv_icmp_ne (tgt := 42) hx hb dX8_hasTo_21 (by decide) (fun c21 => ?_) (fun c21 => ?_)
      · refine lv_iconst (v := (nI 0)) hx hb dX8_hasTo_42 (by decide) ?_
        exact g_zret (z := sz) hx hb hr hlk hz hP hL hS rfl dX8_hasTo_43 (gi_i (by rw [toSing, c11, has_1 c21]; rfl) rfl)
      · refine lv_iload_n hx hb dX8_hasTo_24 rfl (lv_at hl 0 rfl) ?_
        refine g_if_lt hx hb (by omega) dX8_hasTo_25 (tgt := 38) (by decide) ?_
        refine lv_aload_n hx hb dX8_hasTo_28 rfl (lv_at hl 1 rfl) ?_
        refine lv_iload_n hx hb dX8_hasTo_29 rfl (lv_at hl 0 rfl) ?_
        refine lv_iconst (v := (nI 0)) hx hb dX8_hasTo_30 (by decide) ?_
        refine g_runV (As := [.int (nI so), .int (nI 0)]) (rest := []) (own := RX8) (C := RX8) (T := TX8) (N := 20) 2 hx hb hml hown hts hK hz hP hL hS hlo hl.1 (c_X8_soloOf l mo A S so 0 σ sz hMo hR (by omega) (by omega) (by omega)) gX8_hasTo_X8_soloOf rfl rfl rfl (by decide +kernel) ⟨Nat.le_of_ble_eq_true rfl, Nat.le_of_ble_eq_true rfl⟩ hMo.c0 rfl rfl rfl (Nat.le_of_ble_eq_true rfl) dX8_hasTo_31 ⟨Nat.le_of_ble_eq_true rfl, Nat.le_of_ble_eq_true rfl⟩ (g_ki0 (fun H locs hz hP hL hS => ?_))
        refine lv_iload_n hx hb dX8_hasTo_34 rfl (lv_at hl 2 rfl) ?_
        refine lv_icmp_ne (tgt := 42) hx hb dX8_hasTo_35 (by decide) (fun c35 => ?_) (fun c35 => ?_)
        · refine lv_iconst (v := (nI 0)) hx hb dX8_hasTo_42 (by decide) ?_
          exact g_zret (z := sz) hx hb hr hlk hz hP hL hS rfl dX8_hasTo_43 (gi_i (by rw [toSing, soloOk, c11, has_2 c21, hso]; simp [c35, bI, nI_0]) rfl)
        · refine lv_iconst (v := (nI 1)) hx hb dX8_hasTo_38 (by decide) ?_
          refine lv_goto (tgt := 43) hx hb dX8_hasTo_39 (by decide) ?_
          exact g_zret (z := sz) hx hb hr hlk hz hP hL hS rfl dX8_hasTo_43 (gi_i (by rw [toSing, soloOk, c11, has_2 c21, hso]; simp [c35, bI]; rfl) rfl)

theorem nX8_leftAhead_X8 : ∀ w ∈ wsX80, w ∈ wsX8_leftAhead := by decide +kernel
set_option maxHeartbeats 4000000 in
set_option maxRecDepth 100000 in
theorem c_X8_leftAhead (l : Launch) (mo : Nat) (A S : sS) (i b : Nat) (σ : gS) (sz : Nat) (hMo : MoAt σ mo A) (hR : Rr S (A 1)) (hi0 : i < sN S) (hN : sN S ≤ 12) (hb0 : b < sB S) (hB : sB S ≤ 96) : gM l yX8_leftAhead wsX8_leftAhead ({ frames := 1, cells := 0, slots := 0, locals := 22 } : Room) 0 0 [.ref mo, .int (nI i), .int (nI b)] σ sz (gi (laI S A i b) σ sz) := by
  refine gM_of (cc := cX8_leftAhead) (maxL := 3) (ret := (some .int)) (by decide) rfl (Nat.le_of_ble_eq_true rfl) ?_
  intro D ka lo hL hlo p e s m below meth c hx hb hr hts hown hml hlk hnm hK H locs ls hz hP hS hl
  have hl : lv_has ls 3 [(0, .ref mo), (1, .int (nI i)), (2, .int (nI b))] := hl
  have hown : s.vm.findClass RX8 = some m.cls := hown
  refine lv_iload_n hx hb dX8_leftAhead_0 rfl (lv_at hl 2 rfl) ?_
  refine g_if_ne (tgt := 13) hx hb (by omega) dX8_leftAhead_1 (by decide) (fun c1 => ?_) (fun c1 => ?_)
  · refine lv_aload_n hx hb dX8_leftAhead_13 rfl (lv_at hl 0 rfl) ?_
    refine g_get (C := RX8) (T := TX8) (N := 20) hx hb hts hown hK hP hMo.c0 nX8_leftAhead_X8 rfl 14 (by decide) (by decide +kernel) rfl (v := .ref (mo + 11)) rfl dX8_leftAhead_14 ?_
    refine lv_bipush (v := (nI 96)) hx hb dX8_leftAhead_17 (by decide) ?_
    refine lv_iload_n hx hb dX8_leftAhead_19 rfl (lv_at hl 1 rfl) ?_
    refine lv_imul hx hb dX8_leftAhead_20 ?_
    refine g_top (pk_mul 96 i) ?_
    refine lv_iload_n hx hb dX8_leftAhead_21 rfl (lv_at hl 2 rfl) ?_
    refine lv_iadd hx hb dX8_leftAhead_22 ?_
    refine g_top (nI_add (96 * i) b) ?_
    refine lv_iconst (v := (nI 1)) hx hb dX8_leftAhead_23 (by decide) ?_
    refine lv_isub hx hb dX8_leftAhead_24 ?_
    refine g_top (pk_sub (by omega : 1 ≤ (96 * i) + b)) ?_
    refine g_iald hx hb hK hP hMo.c11 (i := nI (((96 * i) + b) - 1)) (vp_in_nI (by omega) (by omega)) dX8_leftAhead_25 ?_
    rw [nI_clamp (n := ((96 * i) + b) - 1) (by omega)]
    exact g_iret (z := sz) hx hb hr hlk hz hP hL hS dX8_leftAhead_26 (gi_i (by rw [laI, if_neg (by omega)]) rfl)
  · refine lv_aload_n hx hb dX8_leftAhead_4 rfl (lv_at hl 0 rfl) ?_
    refine lv_iload_n hx hb dX8_leftAhead_5 rfl (lv_at hl 1 rfl) ?_
    refine lv_iconst (v := (nI 0)) hx hb dX8_leftAhead_6 (by decide) ?_
    refine g_runV (As := [.int (nI i), .int (nI 0)]) (rest := []) (own := RX8) (C := RX8) (T := TX8) (N := 20) 2 hx hb hml hown hts hK hz hP hL hS hlo hl.1 (c_X8_of l mo A S i 0 σ sz hMo hR (by omega) (by omega) (by omega)) gX8_leftAhead_X8_of rfl rfl rfl (by decide +kernel) ⟨Nat.le_of_ble_eq_true rfl, Nat.le_of_ble_eq_true rfl⟩ hMo.c0 rfl rfl rfl (Nat.le_of_ble_eq_true rfl) dX8_leftAhead_7 ⟨Nat.le_of_ble_eq_true rfl, Nat.le_of_ble_eq_true rfl⟩ (g_ki0 (fun H locs hz hP hL hS => ?_))
    refine lv_goto (tgt := 26) hx hb dX8_leftAhead_10 (by decide) ?_
    exact g_iret (z := sz) hx hb hr hlk hz hP hL hS dX8_leftAhead_26 (gi_i (by rw [laI, if_pos (by omega)]; rfl) rfl)

theorem nX8_doesAt_X8 : ∀ w ∈ wsX80, w ∈ wsX8_doesAt := by decide +kernel
set_option maxHeartbeats 4000000 in
set_option maxRecDepth 100000 in
theorem c_X8_doesAt (l : Launch) (mo : Nat) (A S : sS) (i b : Nat) (σ : gS) (sz : Nat) (hMo : MoAt σ mo A) (hR : Rr S (A 1)) (hi0 : i < sN S) (hN : sN S ≤ 12) (hb0 : b < sB S) (hB : sB S ≤ 96) : gM l yX8_doesAt wsX8_doesAt ({ frames := 0, cells := 0, slots := 0, locals := 0 } : Room) 0 0 [.ref mo, .int (nI i), .int (nI b)] σ sz (gi (A 10 (96 * i + b)) σ sz) := by
  refine gM_of (cc := cX8_doesAt) (maxL := 3) (ret := (some .int)) (by decide) rfl (Nat.le_of_ble_eq_true rfl) ?_
  intro D ka lo hL hlo p e s m below meth c hx hb hr hts hown hml hlk hnm hK H locs ls hz hP hS hl
  have hl : lv_has ls 3 [(0, .ref mo), (1, .int (nI i)), (2, .int (nI b))] := hl
  have hown : s.vm.findClass RX8 = some m.cls := hown
  refine lv_aload_n hx hb dX8_doesAt_0 rfl (lv_at hl 0 rfl) ?_
  refine g_get (C := RX8) (T := TX8) (N := 20) hx hb hts hown hK hP hMo.c0 nX8_doesAt_X8 rfl 13 (by decide) (by decide +kernel) rfl (v := .ref (mo + 10)) rfl dX8_doesAt_1 ?_
  refine lv_bipush (v := (nI 96)) hx hb dX8_doesAt_4 (by decide) ?_
  refine lv_iload_n hx hb dX8_doesAt_6 rfl (lv_at hl 1 rfl) ?_
  refine lv_imul hx hb dX8_doesAt_7 ?_
  refine g_top (pk_mul 96 i) ?_
  refine lv_iload_n hx hb dX8_doesAt_8 rfl (lv_at hl 2 rfl) ?_
  refine lv_iadd hx hb dX8_doesAt_9 ?_
  refine g_top (nI_add (96 * i) b) ?_
  refine g_iald hx hb hK hP hMo.c10 (i := nI ((96 * i) + b)) (vp_in_nI (by omega) (by omega)) dX8_doesAt_10 ?_
  rw [nI_clamp (n := (96 * i) + b) (by omega)]
  exact g_iret (z := sz) hx hb hr hlk hz hP hL hS dX8_doesAt_11 (gi_i rfl rfl)

set_option maxHeartbeats 4000000 in
set_option maxRecDepth 100000 in
theorem c_X8_many (l : Launch) (mo : Nat) (A S : sS) (b q : Nat) (σ : gS) (sz : Nat) (hMo : MoAt σ mo A) (hR : Rr S (A 1)) (hN : sN S ≤ 12) (hb0 : b < sB S) (hB : sB S ≤ 96) : gM l yX8_many wsX8_many ({ frames := 1, cells := 0, slots := 0, locals := 22 } : Room) 0 0 [.ref mo, .int (nI b), .int (nI q)] σ sz (gi (nI (cntF (fun i => decide (A 10 (96 * i + b) = nI q)) (sN S))) σ sz) := by
  refine gM_of (cc := cX8_many) (maxL := 5) (ret := (some .int)) (by decide) rfl (Nat.le_of_ble_eq_true rfl) ?_
  intro D ka lo hL hlo p e s m below meth c hx hb hr hts hown hml hlk hnm hK H locs ls hz hP hS hl
  have hl : lv_has ls 5 [(0, .ref mo), (1, .int (nI b)), (2, .int (nI q))] := hl
  have hown : s.vm.findClass RX8 = some m.cls := hown
  refine lv_iconst (v := (nI 0)) hx hb dX8_many_0 (by decide) ?_
  refine lv_istore_n (lv' := [(3, .int (nI 0)), (0, .ref mo), (1, .int (nI b)), (2, .int (nI q))]) hx hb dX8_many_1 rfl hl (by decide) rfl (fun ls hl => ?_)
  refine lv_iconst (v := (nI 0)) hx hb dX8_many_2 (by decide) ?_
  refine lv_istore (lv' := [(4, .int (nI 0)), (3, .int (nI 0)), (0, .ref mo), (1, .int (nI b)), (2, .int (nI q))]) hx hb dX8_many_3 hl (by decide) rfl (fun ls hl => ?_)
  have lp : ∀ (fu_lp : Nat) (k : Nat), (k ≤ sN S) → (sN S - k < fu_lp) → ∀ (H : Heap) (locs : List Loc) (ls : Array Slot), H.size = sz → gH D ka σ H → va_S (gA lo) s.heap H locs → lv_has ls 5 [(0, .ref mo), (1, .int (nI b)), (2, .int (nI q)), (3, .int (nI (cntF (fun i => decide (A 10 (96 * i + b) = nI q)) k))), (4, .int (nI k))] → W p l e ({ frames := 1, cells := 0, slots := 0, locals := 22 } : Room) s m ([.ref mo, .int (nI b), .int (nI q)] : List Value).toArray below meth c H locs (0) (0) (MQ below (gQ D ka lo (gi (nI (cntF (fun i => decide (A 10 (96 * i + b) = nI q)) (sN S))) σ sz)) ([.ref mo, .int (nI b), .int (nI q)] : List Value).toArray s 0 0 (gA lo)) (F0 m 5 ls []) := by
    intro fu_lp
    induction fu_lp with
    | zero => intro k hk hm_lp; exact absurd hm_lp (Nat.not_lt_zero _)
    | succ fu_lp ih_lp =>
      intro k hk hm_lp H locs ls hz hP hS hl
      refine lv_iload hx hb dX8_many_5 (lv_at hl 4 rfl) ?_
      refine lv_aload_n hx hb dX8_many_7 rfl (lv_at hl 0 rfl) ?_
      refine g_runV (As := []) (rest := [.int (nI k)]) (own := RX8) (C := RX8) (T := TX8) (N := 20) 0 hx hb hml hown hts hK hz hP hL hS hlo hl.1 (c_X8_singers l mo A S  σ sz hMo hR) gX8_many_X8_singers rfl rfl rfl (by decide +kernel) ⟨Nat.le_of_ble_eq_true rfl, Nat.le_of_ble_eq_true rfl⟩ hMo.c0 rfl rfl rfl (Nat.le_of_ble_eq_true rfl) dX8_many_8 ⟨Nat.le_of_ble_eq_true rfl, Nat.le_of_ble_eq_true rfl⟩ (g_ki0 (fun H locs hz hP hL hS => ?_))
      refine g_icmp_ge (tgt := 39) (a := k) (b := sN S) hx hb (by omega) (by omega) dX8_many_11 (by decide) (fun c11 => ?_) (fun c11 => ?_)
      · refine lv_iload_n hx hb dX8_many_39 rfl (lv_at hl 3 rfl) ?_
        exact g_iret (z := sz) hx hb hr hlk hz hP hL hS dX8_many_40 (gi_i (by rw [show k = sN S by omega]) rfl)
      · refine lv_iload_n hx hb dX8_many_14 rfl (lv_at hl 3 rfl) ?_
        refine lv_aload_n hx hb dX8_many_15 rfl (lv_at hl 0 rfl) ?_
        refine lv_iload hx hb dX8_many_16 (lv_at hl 4 rfl) ?_
        refine lv_iload_n hx hb dX8_many_18 rfl (lv_at hl 1 rfl) ?_
        refine g_runV (As := [.int (nI k), .int (nI b)]) (rest := [.int (nI (cntF (fun i => decide (A 10 (96 * i + b) = nI q)) k))]) (own := RX8) (C := RX8) (T := TX8) (N := 20) 2 hx hb hml hown hts hK hz hP hL hS hlo hl.1 (c_X8_doesAt l mo A S k b σ sz hMo hR (by omega) (by omega) (by omega) (by omega)) gX8_many_X8_doesAt rfl rfl rfl (by decide +kernel) ⟨Nat.le_of_ble_eq_true rfl, Nat.le_of_ble_eq_true rfl⟩ hMo.c0 rfl rfl rfl (Nat.le_of_ble_eq_true rfl) dX8_many_19 ⟨Nat.le_of_ble_eq_true rfl, Nat.le_of_ble_eq_true rfl⟩ (g_ki0 (fun H locs hz hP hL hS => ?_))
        refine lv_iload_n hx hb dX8_many_22 rfl (lv_at hl 2 rfl) ?_
        refine lv_icmp_ne (tgt := 30) hx hb dX8_many_23 (by decide) (fun c23 => ?_) (fun c23 => ?_)
        · refine lv_iconst (v := (nI 0)) hx hb dX8_many_30 (by decide) ?_
          refine lv_iadd hx hb dX8_many_31 ?_
          refine g_top (nI_add (cntF (fun i => decide (A 10 (96 * i + b) = nI q)) k) 0) ?_
          refine lv_istore_n (lv' := [(3, .int (nI ((cntF (fun i => decide (A 10 (96 * i + b) = nI q)) k) + 0))), (0, .ref mo), (1, .int (nI b)), (2, .int (nI q)), (4, .int (nI k))]) hx hb dX8_many_32 rfl hl (by decide) rfl (fun ls hl => ?_)
          refine lv_iinc (v := (nI (k + 1))) (lv' := [(4, .int (nI (k + 1))), (3, .int (nI ((cntF (fun i => decide (A 10 (96 * i + b) = nI q)) k) + 0))), (0, .ref mo), (1, .int (nI b)), (2, .int (nI q))]) hx hb dX8_many_33 hl (k := 4) rfl (g_inc k 1) (by decide) rfl (fun ls hl => ?_)
          refine lv_goto (tgt := 5) hx hb dX8_many_36 (by decide) ?_
          have e_3 : (nI ((cntF (fun i => decide (A 10 (96 * i + b) = nI q)) k) + 0)) = (nI (cntF (fun i => decide (A 10 (96 * i + b) = nI q)) (k + 1))) := (congrArg nI (cntF_f (p := fun i => decide (A 10 (96 * i + b) = nI q)) (decide_eq_false c23)).symm)
          have hl := lv_sub hl (l' := [(0, .ref mo), (1, .int (nI b)), (2, .int (nI q)), (3, .int (nI ((cntF (fun i => decide (A 10 (96 * i + b) = nI q)) k) + 0))), (4, .int (nI (k + 1)))]) [2, 3, 4, 1, 0] rfl
          rw [e_3] at hl
          exact ih_lp (k + 1) (by omega) (by omega) H locs ls hz hP hS hl
        · refine lv_iconst (v := (nI 1)) hx hb dX8_many_26 (by decide) ?_
          refine lv_goto (tgt := 31) hx hb dX8_many_27 (by decide) ?_
          refine lv_iadd hx hb dX8_many_31 ?_
          refine g_top (nI_add (cntF (fun i => decide (A 10 (96 * i + b) = nI q)) k) 1) ?_
          refine lv_istore_n (lv' := [(3, .int (nI ((cntF (fun i => decide (A 10 (96 * i + b) = nI q)) k) + 1))), (0, .ref mo), (1, .int (nI b)), (2, .int (nI q)), (4, .int (nI k))]) hx hb dX8_many_32 rfl hl (by decide) rfl (fun ls hl => ?_)
          refine lv_iinc (v := (nI (k + 1))) (lv' := [(4, .int (nI (k + 1))), (3, .int (nI ((cntF (fun i => decide (A 10 (96 * i + b) = nI q)) k) + 1))), (0, .ref mo), (1, .int (nI b)), (2, .int (nI q))]) hx hb dX8_many_33 hl (k := 4) rfl (g_inc k 1) (by decide) rfl (fun ls hl => ?_)
          refine lv_goto (tgt := 5) hx hb dX8_many_36 (by decide) ?_
          have e_3 : (nI ((cntF (fun i => decide (A 10 (96 * i + b) = nI q)) k) + 1)) = (nI (cntF (fun i => decide (A 10 (96 * i + b) = nI q)) (k + 1))) := (congrArg nI (cntF_t (p := fun i => decide (A 10 (96 * i + b) = nI q)) (decide_eq_true c23)).symm)
          have hl := lv_sub hl (l' := [(0, .ref mo), (1, .int (nI b)), (2, .int (nI q)), (3, .int (nI ((cntF (fun i => decide (A 10 (96 * i + b) = nI q)) k) + 1))), (4, .int (nI (k + 1)))]) [2, 3, 4, 1, 0] rfl
          rw [e_3] at hl
          exact ih_lp (k + 1) (by omega) (by omega) H locs ls hz hP hS hl
  exact lp _ 0 (by omega) (Nat.lt_succ_self _) H locs ls hz hP hS (lv_sub hl [2, 3, 4, 1, 0] rfl)

set_option maxHeartbeats 4000000 in
set_option maxRecDepth 100000 in
theorem c_X8_beatsOf (l : Launch) (mo : Nat) (A S : sS) (i q : Nat) (σ : gS) (sz : Nat) (hMo : MoAt σ mo A) (hR : Rr S (A 1)) (hi0 : i < sN S) (hN : sN S ≤ 12) (hB : sB S ≤ 96) : gM l yX8_beatsOf wsX8_beatsOf ({ frames := 1, cells := 0, slots := 0, locals := 22 } : Room) 0 0 [.ref mo, .int (nI i), .int (nI q)] σ sz (gi (nI (cntF (fun b => decide (A 10 (96 * i + b) = nI q)) (sB S))) σ sz) := by
  refine gM_of (cc := cX8_beatsOf) (maxL := 5) (ret := (some .int)) (by decide) rfl (Nat.le_of_ble_eq_true rfl) ?_
  intro D ka lo hL hlo p e s m below meth c hx hb hr hts hown hml hlk hnm hK H locs ls hz hP hS hl
  have hl : lv_has ls 5 [(0, .ref mo), (1, .int (nI i)), (2, .int (nI q))] := hl
  have hown : s.vm.findClass RX8 = some m.cls := hown
  refine lv_iconst (v := (nI 0)) hx hb dX8_beatsOf_0 (by decide) ?_
  refine lv_istore_n (lv' := [(3, .int (nI 0)), (0, .ref mo), (1, .int (nI i)), (2, .int (nI q))]) hx hb dX8_beatsOf_1 rfl hl (by decide) rfl (fun ls hl => ?_)
  refine lv_iconst (v := (nI 0)) hx hb dX8_beatsOf_2 (by decide) ?_
  refine lv_istore (lv' := [(4, .int (nI 0)), (3, .int (nI 0)), (0, .ref mo), (1, .int (nI i)), (2, .int (nI q))]) hx hb dX8_beatsOf_3 hl (by decide) rfl (fun ls hl => ?_)
  have lp : ∀ (fu_lp : Nat) (k : Nat), (k ≤ sB S) → (sB S - k < fu_lp) → ∀ (H : Heap) (locs : List Loc) (ls : Array Slot), H.size = sz → gH D ka σ H → va_S (gA lo) s.heap H locs → lv_has ls 5 [(0, .ref mo), (1, .int (nI i)), (2, .int (nI q)), (3, .int (nI (cntF (fun b => decide (A 10 (96 * i + b) = nI q)) k))), (4, .int (nI k))] → W p l e ({ frames := 1, cells := 0, slots := 0, locals := 22 } : Room) s m ([.ref mo, .int (nI i), .int (nI q)] : List Value).toArray below meth c H locs (0) (0) (MQ below (gQ D ka lo (gi (nI (cntF (fun b => decide (A 10 (96 * i + b) = nI q)) (sB S))) σ sz)) ([.ref mo, .int (nI i), .int (nI q)] : List Value).toArray s 0 0 (gA lo)) (F0 m 5 ls []) := by
    intro fu_lp
    induction fu_lp with
    | zero => intro k hk hm_lp; exact absurd hm_lp (Nat.not_lt_zero _)
    | succ fu_lp ih_lp =>
      intro k hk hm_lp H locs ls hz hP hS hl
      refine lv_iload hx hb dX8_beatsOf_5 (lv_at hl 4 rfl) ?_
      refine lv_aload_n hx hb dX8_beatsOf_7 rfl (lv_at hl 0 rfl) ?_
      refine g_runV (As := []) (rest := [.int (nI k)]) (own := RX8) (C := RX8) (T := TX8) (N := 20) 0 hx hb hml hown hts hK hz hP hL hS hlo hl.1 (c_X8_beats l mo A S  σ sz hMo hR) gX8_beatsOf_X8_beats rfl rfl rfl (by decide +kernel) ⟨Nat.le_of_ble_eq_true rfl, Nat.le_of_ble_eq_true rfl⟩ hMo.c0 rfl rfl rfl (Nat.le_of_ble_eq_true rfl) dX8_beatsOf_8 ⟨Nat.le_of_ble_eq_true rfl, Nat.le_of_ble_eq_true rfl⟩ (g_ki0 (fun H locs hz hP hL hS => ?_))
      refine g_icmp_ge (tgt := 39) (a := k) (b := sB S) hx hb (by omega) (by omega) dX8_beatsOf_11 (by decide) (fun c11 => ?_) (fun c11 => ?_)
      · refine lv_iload_n hx hb dX8_beatsOf_39 rfl (lv_at hl 3 rfl) ?_
        exact g_iret (z := sz) hx hb hr hlk hz hP hL hS dX8_beatsOf_40 (gi_i (by rw [show k = sB S by omega]) rfl)
      · refine lv_iload_n hx hb dX8_beatsOf_14 rfl (lv_at hl 3 rfl) ?_
        refine lv_aload_n hx hb dX8_beatsOf_15 rfl (lv_at hl 0 rfl) ?_
        refine lv_iload_n hx hb dX8_beatsOf_16 rfl (lv_at hl 1 rfl) ?_
        refine lv_iload hx hb dX8_beatsOf_17 (lv_at hl 4 rfl) ?_
        refine g_runV (As := [.int (nI i), .int (nI k)]) (rest := [.int (nI (cntF (fun b => decide (A 10 (96 * i + b) = nI q)) k))]) (own := RX8) (C := RX8) (T := TX8) (N := 20) 2 hx hb hml hown hts hK hz hP hL hS hlo hl.1 (c_X8_doesAt l mo A S i k σ sz hMo hR (by omega) (by omega) (by omega) (by omega)) gX8_beatsOf_X8_doesAt rfl rfl rfl (by decide +kernel) ⟨Nat.le_of_ble_eq_true rfl, Nat.le_of_ble_eq_true rfl⟩ hMo.c0 rfl rfl rfl (Nat.le_of_ble_eq_true rfl) dX8_beatsOf_19 ⟨Nat.le_of_ble_eq_true rfl, Nat.le_of_ble_eq_true rfl⟩ (g_ki0 (fun H locs hz hP hL hS => ?_))
        refine lv_iload_n hx hb dX8_beatsOf_22 rfl (lv_at hl 2 rfl) ?_
        refine lv_icmp_ne (tgt := 30) hx hb dX8_beatsOf_23 (by decide) (fun c23 => ?_) (fun c23 => ?_)
        · refine lv_iconst (v := (nI 0)) hx hb dX8_beatsOf_30 (by decide) ?_
          refine lv_iadd hx hb dX8_beatsOf_31 ?_
          refine g_top (nI_add (cntF (fun b => decide (A 10 (96 * i + b) = nI q)) k) 0) ?_
          refine lv_istore_n (lv' := [(3, .int (nI ((cntF (fun b => decide (A 10 (96 * i + b) = nI q)) k) + 0))), (0, .ref mo), (1, .int (nI i)), (2, .int (nI q)), (4, .int (nI k))]) hx hb dX8_beatsOf_32 rfl hl (by decide) rfl (fun ls hl => ?_)
          refine lv_iinc (v := (nI (k + 1))) (lv' := [(4, .int (nI (k + 1))), (3, .int (nI ((cntF (fun b => decide (A 10 (96 * i + b) = nI q)) k) + 0))), (0, .ref mo), (1, .int (nI i)), (2, .int (nI q))]) hx hb dX8_beatsOf_33 hl (k := 4) rfl (g_inc k 1) (by decide) rfl (fun ls hl => ?_)
          refine lv_goto (tgt := 5) hx hb dX8_beatsOf_36 (by decide) ?_
          have e_3 : (nI ((cntF (fun b => decide (A 10 (96 * i + b) = nI q)) k) + 0)) = (nI (cntF (fun b => decide (A 10 (96 * i + b) = nI q)) (k + 1))) := (congrArg nI (cntF_f (p := fun b => decide (A 10 (96 * i + b) = nI q)) (decide_eq_false c23)).symm)
          have hl := lv_sub hl (l' := [(0, .ref mo), (1, .int (nI i)), (2, .int (nI q)), (3, .int (nI ((cntF (fun b => decide (A 10 (96 * i + b) = nI q)) k) + 0))), (4, .int (nI (k + 1)))]) [2, 3, 4, 1, 0] rfl
          rw [e_3] at hl
          exact ih_lp (k + 1) (by omega) (by omega) H locs ls hz hP hS hl
        · refine lv_iconst (v := (nI 1)) hx hb dX8_beatsOf_26 (by decide) ?_
          refine lv_goto (tgt := 31) hx hb dX8_beatsOf_27 (by decide) ?_
          refine lv_iadd hx hb dX8_beatsOf_31 ?_
          refine g_top (nI_add (cntF (fun b => decide (A 10 (96 * i + b) = nI q)) k) 1) ?_
          refine lv_istore_n (lv' := [(3, .int (nI ((cntF (fun b => decide (A 10 (96 * i + b) = nI q)) k) + 1))), (0, .ref mo), (1, .int (nI i)), (2, .int (nI q)), (4, .int (nI k))]) hx hb dX8_beatsOf_32 rfl hl (by decide) rfl (fun ls hl => ?_)
          refine lv_iinc (v := (nI (k + 1))) (lv' := [(4, .int (nI (k + 1))), (3, .int (nI ((cntF (fun b => decide (A 10 (96 * i + b) = nI q)) k) + 1))), (0, .ref mo), (1, .int (nI i)), (2, .int (nI q))]) hx hb dX8_beatsOf_33 hl (k := 4) rfl (g_inc k 1) (by decide) rfl (fun ls hl => ?_)
          refine lv_goto (tgt := 5) hx hb dX8_beatsOf_36 (by decide) ?_
          have e_3 : (nI ((cntF (fun b => decide (A 10 (96 * i + b) = nI q)) k) + 1)) = (nI (cntF (fun b => decide (A 10 (96 * i + b) = nI q)) (k + 1))) := (congrArg nI (cntF_t (p := fun b => decide (A 10 (96 * i + b) = nI q)) (decide_eq_true c23)).symm)
          have hl := lv_sub hl (l' := [(0, .ref mo), (1, .int (nI i)), (2, .int (nI q)), (3, .int (nI ((cntF (fun b => decide (A 10 (96 * i + b) = nI q)) k) + 1))), (4, .int (nI (k + 1)))]) [2, 3, 4, 1, 0] rfl
          rw [e_3] at hl
          exact ih_lp (k + 1) (by omega) (by omega) H locs ls hz hP hS hl
  exact lp _ 0 (by omega) (Nat.lt_succ_self _) H locs ls hz hP hS (lv_sub hl [2, 3, 4, 1, 0] rfl)

theorem nX8_reserveAt_X8 : ∀ w ∈ wsX80, w ∈ wsX8_reserveAt := by decide +kernel
set_option maxHeartbeats 4000000 in
set_option maxRecDepth 100000 in
theorem c_X8_reserveAt (l : Launch) (mo : Nat) (A S : sS) (b : Nat) (σ : gS) (sz : Nat) (hMo : MoAt σ mo A) (hR : Rr S (A 1)) (hRs : sR S ≤ 8) (hb0 : b < sB S) (hB : sB S ≤ 96) : gM l yX8_reserveAt wsX8_reserveAt ({ frames := 1, cells := 0, slots := 0, locals := 21 } : Room) 0 0 [.ref mo, .int (nI b)] σ sz (gi (needI S b) σ sz) := by
  refine gM_of (cc := cX8_reserveAt) (maxL := 5) (ret := (some .int)) (by decide) rfl (Nat.le_of_ble_eq_true rfl) ?_
  intro D ka lo hL hlo p e s m below meth c hx hb hr hts hown hml hlk hnm hK H locs ls hz hP hS hl
  have hl : lv_has ls 5 [(0, .ref mo), (1, .int (nI b))] := hl
  have hown : s.vm.findClass RX8 = some m.cls := hown
  refine lv_iconst (v := (nI 0)) hx hb dX8_reserveAt_0 (by decide) ?_
  refine lv_istore_n (lv' := [(2, .int (nI 0)), (0, .ref mo), (1, .int (nI b))]) hx hb dX8_reserveAt_1 rfl hl (by decide) rfl (fun ls hl => ?_)
  refine lv_aload_n hx hb dX8_reserveAt_2 rfl (lv_at hl 1 rfl) ?_
  refine g_get (C := RX8) (T := TX8) (N := 20) hx hb hts hown hK hP hMo.c0 nX8_reserveAt_X8 rfl 0 (by decide) (by decide +kernel) rfl (v := .ref (mo + 1)) rfl dX8_reserveAt_3 ?_
  refine lv_iconst (v := (nI 3)) hx hb dX8_reserveAt_6 (by decide) ?_
  refine g_iald hx hb hK hP hMo.c1 (i := nI 3) (vp_in_nI (by omega) (by omega)) dX8_reserveAt_7 ?_
  rw [nI_clamp (n := 3) (by omega)]
  refine g_top (y := (nI (sR S))) hR.r3 ?_
  refine lv_istore_n (lv' := [(3, .int (nI (sR S))), (2, .int (nI 0)), (0, .ref mo), (1, .int (nI b))]) hx hb dX8_reserveAt_8 rfl hl (by decide) rfl (fun ls hl => ?_)
  refine lv_iload_n hx hb dX8_reserveAt_9 rfl (lv_at hl 3 rfl) ?_
  refine lv_istore (lv' := [(4, .int (nI b)), (3, .int (nI (sR S))), (2, .int (nI 0)), (0, .ref mo), (1, .int (nI b))]) hx hb dX8_reserveAt_10 hl (by decide) rfl (fun ls hl => ?_)
  have lp : ∀ (fu_lp : Nat) (a : Nat) (sm : Nat) (ac : Int32), (a ≤ sB S) → (sm ≤ sR S) → (neF S (sB S - a) a sm ac = needI S b) → (sB S - a < fu_lp) → ∀ (H : Heap) (locs : List Loc) (ls : Array Slot), H.size = sz → gH D ka σ H → va_S (gA lo) s.heap H locs → lv_has ls 5 [(0, .ref mo), (1, .int (nI b)), (2, .int ac), (3, .int (nI (sR S - sm))), (4, .int (nI a))] → W p l e ({ frames := 1, cells := 0, slots := 0, locals := 21 } : Room) s m ([.ref mo, .int (nI b)] : List Value).toArray below meth c H locs (0) (0) (MQ below (gQ D ka lo (gi (needI S b) σ sz)) ([.ref mo, .int (nI b)] : List Value).toArray s 0 0 (gA lo)) (F0 m 12 ls []) := by
    intro fu_lp
    induction fu_lp with
    | zero => intro a sm ac ha hsm hs hm_lp; exact absurd hm_lp (Nat.not_lt_zero _)
    | succ fu_lp ih_lp =>
      intro a sm ac ha hsm hs hm_lp H locs ls hz hP hS hl
      refine lv_iload hx hb dX8_reserveAt_12 (lv_at hl 4 rfl) ?_
      refine lv_aload_n hx hb dX8_reserveAt_14 rfl (lv_at hl 0 rfl) ?_
      refine g_runV (As := []) (rest := [.int (nI a)]) (own := RX8) (C := RX8) (T := TX8) (N := 20) 0 hx hb hml hown hts hK hz hP hL hS hlo hl.1 (c_X8_beats l mo A S  σ sz hMo hR) gX8_reserveAt_X8_beats rfl rfl rfl (by decide +kernel) ⟨Nat.le_of_ble_eq_true rfl, Nat.le_of_ble_eq_true rfl⟩ hMo.c0 rfl rfl rfl (Nat.le_of_ble_eq_true rfl) dX8_reserveAt_15 ⟨Nat.le_of_ble_eq_true rfl, Nat.le_of_ble_eq_true rfl⟩ (g_ki0 (fun H locs hz hP hL hS => ?_))
      refine g_icmp_ge (tgt := 70) (a := a) (b := sB S) hx hb (by omega) (by omega) dX8_reserveAt_18 (by decide) (fun c18 => ?_) (fun c18 => ?_)
      · refine lv_iload_n hx hb dX8_reserveAt_70 rfl (lv_at hl 2 rfl) ?_
        exact g_iret (z := sz) hx hb hr hlk hz hP hL hS dX8_reserveAt_71 (gi_i (by rw [← hs, neF_e (by omega)]) rfl)
      · refine lv_iload_n hx hb dX8_reserveAt_21 rfl (lv_at hl 3 rfl) ?_
        refine g_if_le (tgt := 70) hx hb (by omega) dX8_reserveAt_22 (by decide) (fun c22 => ?_) (fun c22 => ?_)
        · refine lv_iload_n hx hb dX8_reserveAt_70 rfl (lv_at hl 2 rfl) ?_
          exact g_iret (z := sz) hx hb hr hlk hz hP hL hS dX8_reserveAt_71 (gi_i (by rw [← hs, neF_f (by omega) (by omega)]) rfl)
        · refine lv_iload_n hx hb dX8_reserveAt_25 rfl (lv_at hl 2 rfl) ?_
          refine lv_aload_n hx hb dX8_reserveAt_26 rfl (lv_at hl 0 rfl) ?_
          refine lv_iload hx hb dX8_reserveAt_27 (lv_at hl 4 rfl) ?_
          refine g_runV (As := [.int (nI a)]) (rest := [.int ac]) (own := RX8) (C := RX8) (T := TX8) (N := 20) 1 hx hb hml hown hts hK hz hP hL hS hlo hl.1 (c_X8_isRest l mo A S a σ sz hMo hR (by omega) (by omega)) gX8_reserveAt_X8_isRest rfl rfl rfl (by decide +kernel) ⟨Nat.le_of_ble_eq_true rfl, Nat.le_of_ble_eq_true rfl⟩ hMo.c0 rfl rfl rfl (Nat.le_of_ble_eq_true rfl) dX8_reserveAt_29 ⟨Nat.le_of_ble_eq_true rfl, Nat.le_of_ble_eq_true rfl⟩ (g_ki0 (fun H locs hz hP hL hS => ?_))
          refine g_ifb_eq (tgt := 39) hx hb dX8_reserveAt_32 (by decide) (fun c32 => ?_) (fun c32 => ?_)
          · refine lv_aload_n hx hb dX8_reserveAt_39 rfl (lv_at hl 0 rfl) ?_
            refine lv_iload hx hb dX8_reserveAt_40 (lv_at hl 4 rfl) ?_
            refine g_runV (As := [.int (nI a)]) (rest := [.int ac]) (own := RX8) (C := RX8) (T := TX8) (N := 20) 1 hx hb hml hown hts hK hz hP hL hS hlo hl.1 (c_X8_loud l mo A S a σ sz hMo hR (by omega) (by omega)) gX8_reserveAt_X8_loud rfl rfl rfl (by decide +kernel) ⟨Nat.le_of_ble_eq_true rfl, Nat.le_of_ble_eq_true rfl⟩ hMo.c0 rfl rfl rfl (Nat.le_of_ble_eq_true rfl) dX8_reserveAt_42 ⟨Nat.le_of_ble_eq_true rfl, Nat.le_of_ble_eq_true rfl⟩ (g_ki0 (fun H locs hz hP hL hS => ?_))
            refine lv_iadd hx hb dX8_reserveAt_45 ?_
            refine lv_istore_n (lv' := [(2, .int (ac + (S 1 a))), (0, .ref mo), (1, .int (nI b)), (3, .int (nI (sR S - sm))), (4, .int (nI a))]) hx hb dX8_reserveAt_46 rfl hl (by decide) rfl (fun ls hl => ?_)
            refine lv_iload_n hx hb dX8_reserveAt_47 rfl (lv_at hl 3 rfl) ?_
            refine lv_aload_n hx hb dX8_reserveAt_48 rfl (lv_at hl 1 rfl) ?_
            refine lv_iload hx hb dX8_reserveAt_49 (lv_at hl 4 rfl) ?_
            refine g_runV (As := [.int (nI a)]) (rest := [.int (nI (sR S - sm))]) (own := RX8) (C := RX8) (T := TX8) (N := 20) 1 hx hb hml hown hts hK hz hP hL hS hlo hl.1 (c_X8_isRest l mo A S a σ sz hMo hR (by omega) (by omega)) gX8_reserveAt_X8_isRest rfl rfl rfl (by decide +kernel) ⟨Nat.le_of_ble_eq_true rfl, Nat.le_of_ble_eq_true rfl⟩ hMo.c0 rfl rfl rfl (Nat.le_of_ble_eq_true rfl) dX8_reserveAt_51 ⟨Nat.le_of_ble_eq_true rfl, Nat.le_of_ble_eq_true rfl⟩ (g_ki0 (fun H locs hz hP hL hS => ?_))
            refine g_ifb_eq (tgt := 61) hx hb dX8_reserveAt_54 (by decide) (fun c54 => ?_) (fun c54 => ?_)
            · refine lv_iconst (v := (nI 1)) hx hb dX8_reserveAt_61 (by decide) ?_
              refine lv_isub hx hb dX8_reserveAt_62 ?_
              refine g_top (pk_sub (by omega : 1 ≤ sR S - sm)) ?_
              refine lv_istore_n (lv' := [(3, .int (nI ((sR S - sm) - 1))), (2, .int (ac + (S 1 a))), (0, .ref mo), (1, .int (nI b)), (4, .int (nI a))]) hx hb dX8_reserveAt_63 rfl hl (by decide) rfl (fun ls hl => ?_)
              refine lv_iinc (v := (nI (a + 1))) (lv' := [(4, .int (nI (a + 1))), (3, .int (nI ((sR S - sm) - 1))), (2, .int (ac + (S 1 a))), (0, .ref mo), (1, .int (nI b))]) hx hb dX8_reserveAt_64 hl (k := 4) rfl (g_inc a 1) (by decide) rfl (fun ls hl => ?_)
              refine lv_goto (tgt := 12) hx hb dX8_reserveAt_67 (by decide) ?_
              have e_3 : (nI ((sR S - sm) - 1)) = (nI (sR S - (sm + 1))) := (congrArg nI (by omega))
              have hl := lv_sub hl (l' := [(0, .ref mo), (1, .int (nI b)), (2, .int (ac + (S 1 a))), (3, .int (nI ((sR S - sm) - 1))), (4, .int (nI (a + 1)))]) [3, 4, 2, 1, 0] rfl
              rw [e_3] at hl
              exact ih_lp (a + 1) (sm + 1) (ac + S 1 a) (by omega) (by omega) ((neF_s (by omega) (by omega) c54).trans hs) (by omega) H locs ls hz hP hS hl
            · exact absurd (c32.symm.trans c54) (by decide)
          · refine lv_iconst (v := (nI 0)) hx hb dX8_reserveAt_35 (by decide) ?_
            refine lv_goto (tgt := 45) hx hb dX8_reserveAt_36 (by decide) ?_
            refine lv_iadd hx hb dX8_reserveAt_45 ?_
            refine lv_istore_n (lv' := [(2, .int (ac + (nI 0))), (0, .ref mo), (1, .int (nI b)), (3, .int (nI (sR S - sm))), (4, .int (nI a))]) hx hb dX8_reserveAt_46 rfl hl (by decide) rfl (fun ls hl => ?_)
            refine lv_iload_n hx hb dX8_reserveAt_47 rfl (lv_at hl 3 rfl) ?_
            refine lv_aload_n hx hb dX8_reserveAt_48 rfl (lv_at hl 1 rfl) ?_
            refine lv_iload hx hb dX8_reserveAt_49 (lv_at hl 4 rfl) ?_
            refine g_runV (As := [.int (nI a)]) (rest := [.int (nI (sR S - sm))]) (own := RX8) (C := RX8) (T := TX8) (N := 20) 1 hx hb hml hown hts hK hz hP hL hS hlo hl.1 (c_X8_isRest l mo A S a σ sz hMo hR (by omega) (by omega)) gX8_reserveAt_X8_isRest rfl rfl rfl (by decide +kernel) ⟨Nat.le_of_ble_eq_true rfl, Nat.le_of_ble_eq_true rfl⟩ hMo.c0 rfl rfl rfl (Nat.le_of_ble_eq_true rfl) dX8_reserveAt_51 ⟨Nat.le_of_ble_eq_true rfl, Nat.le_of_ble_eq_true rfl⟩ (g_ki0 (fun H locs hz hP hL hS => ?_))
            refine g_ifb_eq (tgt := 61) hx hb dX8_reserveAt_54 (by decide) (fun c54 => ?_) (fun c54 => ?_)
            · exact absurd (c32.symm.trans c54) (by decide)
            · refine lv_iconst (v := (nI 0)) hx hb dX8_reserveAt_57 (by decide) ?_
              refine lv_goto (tgt := 62) hx hb dX8_reserveAt_58 (by decide) ?_
              refine lv_isub hx hb dX8_reserveAt_62 ?_
              refine g_top (pk_sub (by omega : 0 ≤ sR S - sm)) ?_
              refine lv_istore_n (lv' := [(3, .int (nI ((sR S - sm) - 0))), (2, .int (ac + (nI 0))), (0, .ref mo), (1, .int (nI b)), (4, .int (nI a))]) hx hb dX8_reserveAt_63 rfl hl (by decide) rfl (fun ls hl => ?_)
              refine lv_iinc (v := (nI (a + 1))) (lv' := [(4, .int (nI (a + 1))), (3, .int (nI ((sR S - sm) - 0))), (2, .int (ac + (nI 0))), (0, .ref mo), (1, .int (nI b))]) hx hb dX8_reserveAt_64 hl (k := 4) rfl (g_inc a 1) (by decide) rfl (fun ls hl => ?_)
              refine lv_goto (tgt := 12) hx hb dX8_reserveAt_67 (by decide) ?_
              have e_2 : (ac + (nI 0)) = ac := (Int32.add_zero _)
              have e_3 : (nI ((sR S - sm) - 0)) = (nI (sR S - sm)) := (congrArg nI (by omega))
              have hl := lv_sub hl (l' := [(0, .ref mo), (1, .int (nI b)), (2, .int (ac + (nI 0))), (3, .int (nI ((sR S - sm) - 0))), (4, .int (nI (a + 1)))]) [3, 4, 2, 1, 0] rfl
              rw [e_2] at hl
              rw [e_3] at hl
              exact ih_lp (a + 1) sm ac (by omega) (by omega) ((neF_r (by omega) (by omega) c54).trans hs) (by omega) H locs ls hz hP hS hl
  exact lp _ b 0 (nI 0) (by omega) (by omega) rfl (Nat.lt_succ_self _) H locs ls hz hP hS (lv_sub hl [3, 4, 2, 1, 0] rfl)
