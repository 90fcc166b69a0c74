/-! the reference changes -/
def recH (A : sS) (P k j : Nat) : Int32 := if P < 5 then (if k = P then A 2 j else A 3 (292 * k + j)) else (if k = 4 then A 2 j else A 3 (292 * (k + 1) + j))
def MeP (A S : sS) (tf : Nat → Int32) (tn P : Nat) (C : Nat → sS) (kp : Nat → Bool) : Prop :=
  tN A 0 = P ∧ tN A 1 = tn ∧ Rr S (A 1) ∧ (∀ k : Nat, k < P → Rr (C k) (fun j => A 3 (292 * k + j))) ∧ (∀ k : Nat, k < 2 → kp k = true → Rr (C (k + 5)) (fun j => A 4 (292 * k + j))) ∧ (∀ k : Nat, k < 2 → A 5 k = bI (kp k)) ∧ (∀ j : Nat, j < tn → A 6 j = tf j) ∧ tn ≤ 60 ∧ P ≤ 5
def Me (σ : gS) (mo : Nat) (S : sS) (tf : Nat → Int32) (tn P : Nat) (C : Nat → sS) (kp : Nat → Bool) : Prop := ∃ A : sS, MoAt σ mo A ∧ MeP A S tf tn P C kp
theorem Me.fr {σ τ : gS} {mo : Nat} {S : sS} {tf : Nat → Int32} {tn P : Nat} {C : Nat → sS} {kp : Nat → Bool} (h : Me σ mo S tf tn P C kp) (hq : ∀ q : Nat, mo ≤ q → q < mo + 16 → τ q = σ q) : Me τ mo S tf tn P C kp := by
  obtain ⟨A, h1, h2⟩ := h
  exact ⟨A, h1.fr hq, h2⟩
theorem MeP.done {A0 A A' S S2 : sS} {tf : Nat → Int32} {tn P : Nat} {C : Nat → sS} {kp : Nat → Bool} (h : MeP A0 S tf tn P C kp) (hok : okS S) (hokC : ∀ k : Nat, k < P → okS (C k)) (hb : ∀ j : Nat, j < 292 → A 2 j = A0 1 j) (hk : ∀ i : Nat, 3 ≤ i → i ≤ 6 → A i = A0 i) (ht : A 0 = A0 0) (hR2 : Rr S2 (A 1))
    (d1 : tN A' 0 = recP P) (d2 : ∀ i : Nat, 1 ≤ i → i < 5 → tN A' i = tN A i) (d3 : ∀ j : Nat, 1 ≤ j → j ≠ 3 → A' j = A j) (d4 : ∀ k j : Nat, k < recP P → j < 292 → A' 3 (292 * k + j) = recH A P k j) : MeP A' S2 tf tn (recP P) (recS C P S) kp := by
  obtain ⟨h1, h2, h3, h4, h5, h6, h7, h8, h9⟩ := h
  refine ⟨d1, ?_, ?_, fun k hk2 => ?_, fun k hk2 hkp => ?_, fun k hk2 => ?_, fun j hj => ?_, h8, recP_le P⟩
  · rw [d2 1 (by decide) (by decide)]
    show (A 0 1).toNatClampNeg = tn
    rw [ht]; exact h2
  · rw [d3 1 (by decide) (by decide)]; exact hR2
  · by_cases c : P < 5
    · rw [recP_t c] at hk2
      rw [recS_t C S c]
      by_cases c2 : k = P
      · subst c2
        rw [uS_s]
        refine h3.congr hok (fun j hj => ?_)
        show A' 3 (292 * k + j) = _
        rw [d4 k j (by rw [recP_t c]; omega) hj, recH, if_pos c, if_pos rfl, hb j hj]
      · rw [uS_n c2]
        refine (h4 k (by omega)).congr (hokC k (by omega)) (fun j hj => ?_)
        show A' 3 (292 * k + j) = _
        rw [d4 k j (by rw [recP_t c]; omega) hj, recH, if_pos c, if_neg c2, hk 3 (by decide) (by decide)]
    · have hP : P = 5 := by omega
      have hk5 : k < 5 := Nat.lt_of_lt_of_le hk2 (recP_le P)
      rw [recS_f C S (by omega) h9]
      by_cases c2 : k = 4
      · rw [c2, show P - 1 = 4 by omega, uS_s]
        refine h3.congr hok (fun j hj => ?_)
        show A' 3 (292 * 4 + j) = _
        rw [d4 4 j (by rw [← c2]; exact hk2) hj, recH, if_neg c, if_pos rfl, hb j hj]
      · rw [uS_n (by omega), rot_p]
        have e : rotp 4 k = k + 1 := by
          simp only [rotp, rtF]
          rw [if_pos (by omega)]
        rw [e]
        refine (h4 (k + 1) (by omega)).congr (hokC (k + 1) (by omega)) (fun j hj => ?_)
        show A' 3 (292 * k + j) = _
        rw [d4 k j hk2 hj, recH, if_neg c, if_neg c2, hk 3 (by decide) (by decide)]
  · rw [recS_k C S (by omega), d3 4 (by decide) (by decide), hk 4 (by decide) (by decide)]
    exact h5 k hk2 hkp
  · rw [d3 5 (by decide) (by decide), hk 5 (by decide) (by decide)]
    exact h6 k hk2
  · rw [d3 6 (by decide) (by decide), hk 6 (by decide) (by decide)]
    exact h7 j hj
def mP (mo : Nat) (σ : gS) (S : sS) (tf : Nat → Int32) (tn P : Nat) (C : Nat → sS) (kp : Nat → Bool) (sz : Nat) (res : Int32 × Option sS) (r : Int32) (τ : gS) (n : Nat) : Prop :=
  r = res.1 ∧ (match res.2 with
    | none => Me τ mo S tf tn P C kp
    | some S2 => Me τ mo S2 tf tn (recP P) (recS C P S) kp) ∧ n = sz ∧ gAs (gZo mo 16) σ τ
section MP
variable {mo : Nat} {σ : gS} {S S2 : sS} {tf : Nat → Int32} {tn P : Nat} {C : Nat → sS} {kp : Nat → Bool} {sz : Nat} {res : Int32 × Option sS} {r : Int32} {τ : gS} {n : Nat}
theorem mP_n (ho : res = (r, none)) (hW : Me τ mo S tf tn P C kp) (h1 : n = sz) (ha : gAs (gZo mo 16) σ τ) : mP mo σ S tf tn P C kp sz res r τ n := by
  subst ho; exact ⟨rfl, hW, h1, ha⟩
theorem mP_s (ho : res = (r, some S2)) (hW : Me τ mo S2 tf tn (recP P) (recS C P S) kp) (h1 : n = sz) (ha : gAs (gZo mo 16) σ τ) : mP mo σ S tf tn P C kp sz res r τ n := by
  subst ho; exact ⟨rfl, hW, h1, ha⟩
end MP
theorem beg_s {A : sS} {k : Nat} : sRow (sRow A 2 (cpyF (A 2) (A 1) k)) 2 (upd ((sRow A 2 (cpyF (A 2) (A 1) k)) 2) k ((sRow A 2 (cpyF (A 2) (A 1) k)) 1 k)) = sRow A 2 (cpyF (A 2) (A 1) (k + 1)) := by
  rw [sRow_2, sRow_s, sRow_n (by decide), cpyF_s]
def shH (f : Nat → Int32) (u : Nat) : Nat → Int32 := fun j => if j < u then f (j + 292) else f j
theorem shH_0 (A : sS) : sRow A 3 (shH (A 3) 0) = A := by
  have e : shH (A 3) 0 = A 3 := by funext j; simp only [shH]; rw [if_neg (by omega)]
  rw [e, sRow_id]
theorem shH_s {A : sS} {u : Nat} : sRow (sRow A 3 (shH (A 3) u)) 3 (upd ((sRow A 3 (shH (A 3) u)) 3) u ((sRow A 3 (shH (A 3) u)) 3 (u + 292))) = sRow A 3 (shH (A 3) (u + 1)) := by
  rw [sRow_2, sRow_s]
  congr 1
  funext j
  simp only [upd, shH]
  by_cases c : j = u
  · subst c; rw [if_pos rfl, if_neg (by omega), if_pos (by omega)]
  · rw [if_neg c]
    by_cases c2 : j < u
    · rw [if_pos c2, if_pos (by omega)]
    · rw [if_neg c2, if_neg (by omega)]
/-- a row written over a longer one from a place on -/
def wrB (f g : Nat → Int32) (a u : Nat) : Nat → Int32 := fun j => if a ≤ j ∧ j < a + u then g (j - a) else f j
theorem wrB_0 (f g : Nat → Int32) (a : Nat) : wrB f g a 0 = f := by funext j; simp only [wrB]; rw [if_neg (by omega)]
theorem wrB_s {f g : Nat → Int32} {a u : Nat} : upd (wrB f g a u) (a + u) (g u) = wrB f g a (u + 1) := by
  funext j
  simp only [upd, wrB]
  by_cases c : j = a + u
  · subst c; rw [if_pos rfl, if_pos (by omega), show a + u - a = u by omega]
  · rw [if_neg c]
    by_cases c2 : a ≤ j ∧ j < a + u
    · rw [if_pos c2, if_pos (by omega)]
    · rw [if_neg c2, if_neg (by omega)]
theorem wrB_in {f g : Nat → Int32} {a u j : Nat} (h : j < u) : wrB f g a u (a + j) = g j := by
  simp only [wrB]; rw [if_pos (by omega), show a + j - a = j by omega]
theorem wrB_out {f g : Nat → Int32} {a u j : Nat} (h : j < a ∨ a + u ≤ j) : wrB f g a u j = f j := by
  simp only [wrB]; rw [if_neg (by omega)]
theorem his_s {B : sS} {a u : Nat} : sRow (sRow B 3 (wrB (B 3) (B 2) a u)) 3 (upd ((sRow B 3 (wrB (B 3) (B 2) a u)) 3) (a + u) ((sRow B 3 (wrB (B 3) (B 2) a u)) 2 u)) = sRow B 3 (wrB (B 3) (B 2) a (u + 1)) := by
  rw [sRow_2, sRow_s, sRow_n (by decide), wrB_s]
theorem tN_s {A : sS} {i v : Nat} (hv : v < 2147483648) : tN (sPut A 0 i (nI v)) i = v := by
  show (sPut A 0 i (nI v) 0 i).toNatClampNeg = v
  rw [sPut_s, nI_clamp (by omega)]
theorem tN_n {A : sS} {i j : Nat} {v : Int32} (h : j ≠ i) : tN (sPut A 0 i v) j = tN A j := by
  show (sPut A 0 i v 0 j).toNatClampNeg = _
  rw [sPut_k h]
theorem nX8_begin_X8 : ∀ w ∈ wsX80, w ∈ wsX8_begin := by decide +kernel
set_option maxHeartbeats 4000000 in
set_option maxRecDepth 100000 in
theorem c_X8_begin (l : Launch) (mo : Nat) (A : sS) (σ : gS) (sz : Nat) (hMo : MoAt σ mo A) : gM l yX8_begin wsX8_begin ({ frames := 0, cells := 0, slots := 0, locals := 0 } : Room) 0 0 [.ref mo] σ sz (gxv (fun τ n => n = sz ∧ (∃ A2 : sS, MoAt τ mo A2 ∧ (∀ j : Nat, j < 292 → A2 2 j = A 1 j) ∧ (∀ i : Nat, i ≠ 2 → A2 i = A i)) ∧ gAs (gZo mo 16) σ τ)) := by
  refine gM_of (cc := cX8_begin) (maxL := 2) (ret := none) (by decide) rfl (Nat.le_of_ble_eq_true rfl) ?_
  intro D ka lo hL hlo p e s m below meth c hx hb hr hts hown hml hlk hnm hK H locs ls hz hP hS hl
  have hl : lv_has ls 2 [(0, .ref mo)] := hl
  have hown : s.vm.findClass RX8 = some m.cls := hown
  have hag : gAs (gZo mo 16) σ σ := gAs.rf
  refine lv_iconst (v := (nI 0)) hx hb dX8_begin_0 (by decide) ?_
  refine lv_istore_n (lv' := [(1, .int (nI 0)), (0, .ref mo)]) hx hb dX8_begin_1 rfl hl (by decide) rfl (fun ls hl => ?_)
  have lp : ∀ (fu_lp : Nat) (k : Nat), (k ≤ 292) → (292 - k < fu_lp) → ∀ (υ : gS), (MoAt υ mo (sRow A 2 (cpyF (A 2) (A 1) k))) → (gAs (gZo mo 16) σ υ) → gL lo υ → ∀ (H : Heap) (locs : List Loc) (ls : Array Slot), H.size = sz → gH D ka υ H → va_S (gA lo) s.heap H locs → lv_has ls 2 [(0, .ref mo), (1, .int (nI k))] → W p l e ({ frames := 0, cells := 0, slots := 0, locals := 0 } : Room) s m ([.ref mo] : List Value).toArray below meth c H locs (0) (0) (MQ below (gQ D ka lo (gxv (fun τ n => n = sz ∧ (∃ A2 : sS, MoAt τ mo A2 ∧ (∀ j : Nat, j < 292 → A2 2 j = A 1 j) ∧ (∀ i : Nat, i ≠ 2 → A2 i = A i)) ∧ gAs (gZo mo 16) σ τ))) ([.ref mo] : List Value).toArray s 0 0 (gA lo)) (F0 m 2 ls []) := by
    intro fu_lp
    induction fu_lp with
    | zero => intro k hk hm_lp; exact absurd hm_lp (Nat.not_lt_zero _)
    | succ fu_lp ih_lp =>
      intro k hk hm_lp υ hMo hag hL H locs ls hz hP hS hl
      refine lv_iload_n hx hb dX8_begin_2 rfl (lv_at hl 1 rfl) ?_
      refine lv_sipush (v := (nI 292)) hx hb dX8_begin_3 (by decide) ?_
      refine g_icmp_ge (tgt := 27) (a := k) (b := 292) hx hb (by omega) (by omega) dX8_begin_6 (by decide) (fun c6 => ?_) (fun c6 => ?_)
      · exact g_vret (z := sz) hx hb hr hlk hz hP hL hS dX8_begin_27 (gxv_i ⟨rfl, ⟨_, hMo, fun j hj => by rw [sRow_s]; exact cpyF_lt (by omega), fun i hi => sRow_n hi⟩, hag⟩)
      · refine lv_aload_n hx hb dX8_begin_9 rfl (lv_at hl 0 rfl) ?_
        refine g_get (C := RX8) (T := TX8) (N := 20) hx hb hts hown hK hP hMo.c0 nX8_begin_X8 rfl 1 (by decide) (by decide +kernel) rfl (v := .ref (mo + 2)) rfl dX8_begin_10 ?_
        refine lv_iload_n hx hb dX8_begin_13 rfl (lv_at hl 1 rfl) ?_
        refine lv_aload_n hx hb dX8_begin_14 rfl (lv_at hl 0 rfl) ?_
        refine g_get (C := RX8) (T := TX8) (N := 20) hx hb hts hown hK hP hMo.c0 nX8_begin_X8 rfl 0 (by decide) (by decide +kernel) rfl (v := .ref (mo + 1)) rfl dX8_begin_15 ?_
        refine lv_iload_n hx hb dX8_begin_18 rfl (lv_at hl 1 rfl) ?_
        refine g_iald hx hb hK hP hMo.c1 (i := nI k) (vp_in_nI (by omega) (by omega)) dX8_begin_19 ?_
        rw [nI_clamp (n := k) (by omega)]
        refine g_iast hx hb hK hP hL hS hMo.c2 (i := nI k) (vp_in_nI (by omega) (by omega)) dX8_begin_20 (fun H locs hq hP hL hS => ?_)
        rw [nI_clamp (n := k) (by omega)] at hP hL
        have hz := hq.trans hz
        obtain ⟨σ1, e1⟩ : ∃ υ0 : gS, υ0 = gup υ (mo + 2) (gI 292 (upd ((sRow A 2 (cpyF (A 2) (A 1) k)) 2) k ((((sRow A 2 (cpyF (A 2) (A 1) k)) 1) k)))) := ⟨_, rfl⟩
        have hP : gH D ka σ1 H := by rw [e1]; exact hP
        have hL : gL lo σ1 := by rw [e1]; exact hL
        have hMo : MoAt σ1 mo (sRow (sRow A 2 (cpyF (A 2) (A 1) k)) 2 (upd ((sRow A 2 (cpyF (A 2) (A 1) k)) 2) k ((((sRow A 2 (cpyF (A 2) (A 1) k)) 1) k)))) := by rw [e1]; exact hMo.w2 (upd ((sRow A 2 (cpyF (A 2) (A 1) k)) 2) k ((((sRow A 2 (cpyF (A 2) (A 1) k)) 1) k)))
        have hag := hag.upe e1 (zo_k (by decide))
        refine lv_iinc (v := (nI (k + 1))) (lv' := [(1, .int (nI (k + 1))), (0, .ref mo)]) hx hb dX8_begin_21 hl (k := 1) rfl (g_inc k 1) (by decide) rfl (fun ls hl => ?_)
        refine lv_goto (tgt := 2) hx hb dX8_begin_24 (by decide) ?_
        exact ih_lp (k + 1) (by omega) (by omega) σ1 (by rw [← beg_s]; exact hMo) hag hL H locs ls hz hP hS (lv_sub hl [1, 0] rfl)
  exact lp _ 0 (by omega) (Nat.lt_succ_self _) σ (by rw [cpyF_0, sRow_id]; exact hMo) hag hL H locs ls hz hP hS (lv_sub hl [1, 0] rfl)

theorem nX8_done_X8 : ∀ w ∈ wsX80, w ∈ wsX8_done := by decide +kernel
set_option maxHeartbeats 4000000 in
set_option maxRecDepth 100000 in
theorem c_X8_done (l : Launch) (mo : Nat) (A : sS) (P : Nat) (told : Int32) (σ : gS) (sz : Nat) (hMo : MoAt σ mo A) (hP0 : tN A 0 = P) (hP5 : P ≤ 5) : gM l yX8_done wsX8_done ({ frames := 0, cells := 0, slots := 0, locals := 0 } : Room) 0 0 [.ref mo, .int told] σ sz (gxi (fun r τ n => r = told ∧ n = sz ∧ (∃ A2 : sS, MoAt τ mo A2 ∧ tN A2 0 = recP P ∧ (∀ i : Nat, 1 ≤ i → i < 5 → tN A2 i = tN A i) ∧ (∀ j : Nat, 1 ≤ j → j ≠ 3 → A2 j = A j) ∧ (∀ k j : Nat, k < recP P → j < 292 → A2 3 (292 * k + j) = recH A P k j)) ∧ gAs (gZo mo 16) σ τ)) := by
  refine gM_of (cc := cX8_done) (maxL := 3) (ret := (some .int)) (by decide) rfl (Nat.le_of_ble_eq_true rfl) ?_
  intro D ka lo hL hlo p e s m below meth c hx hb hr hts hown hml hlk hnm hK H locs ls hz hP hS hl
  have hl : lv_has ls 3 [(0, .ref mo), (1, .int told)] := hl
  have hown : s.vm.findClass RX8 = some m.cls := hown
  have hag : gAs (gZo mo 16) σ σ := gAs.rf
  refine lv_aload_n hx hb dX8_done_0 rfl (lv_at hl 0 rfl) ?_
  refine g_get (C := RX8) (T := TX8) (N := 20) hx hb hts hown hK hP hMo.c0 nX8_done_X8 rfl 3 (by decide) (by decide +kernel) rfl (v := .int (nI (tN A 0))) rfl dX8_done_1 ?_
  refine lv_iconst (v := (nI 5)) hx hb dX8_done_4 (by decide) ?_
  refine g_icmp_ne (tgt := 54) (a := tN A 0) (b := 5) hx hb (by omega) (by omega) dX8_done_5 (by decide) (fun c5 => ?_) (fun c5 => ?_)
  · obtain ⟨B, q, hMo, hB0, hq4, hqP, hBi, hBr, hB3, hB4⟩ : ∃ (B : sS) (q : Nat), MoAt σ mo B ∧ tN B 0 = q ∧ q ≤ 4 ∧ recP P = q + 1 ∧ (∀ i : Nat, 1 ≤ i → i < 5 → tN B i = tN A i) ∧ (∀ j : Nat, 1 ≤ j → j ≠ 3 → B j = A j) ∧ (∀ k j : Nat, k < q → j < 292 → B 3 (292 * k + j) = recH A P k j) ∧ (∀ j : Nat, recH A P q j = A 2 j) := ⟨A, P, hMo, hP0, by omega, recP_t (by omega), fun i h1 h2 => rfl, fun j h1 h2 => rfl, fun k j h1 h2 => by rw [recH, if_pos (by omega), if_neg (by omega)], fun j => by rw [recH, if_pos (by omega), if_pos rfl]⟩
    refine lv_iconst (v := (nI 0)) hx hb dX8_done_54 (by decide) ?_
    refine lv_istore_n (lv' := [(2, .int (nI 0)), (0, .ref mo), (1, .int told)]) hx hb dX8_done_55 rfl hl (by decide) rfl (fun ls hl => ?_)
    have lq : ∀ (fu_lq : Nat) (u : Nat), (u ≤ 292) → (292 - u < fu_lq) → ∀ (υ : gS), (MoAt υ mo (sRow B 3 (wrB (B 3) (B 2) (292 * q) u))) → (gAs (gZo mo 16) σ υ) → gL lo υ → ∀ (H : Heap) (locs : List Loc) (ls : Array Slot), H.size = sz → gH D ka υ H → va_S (gA lo) s.heap H locs → lv_has ls 3 [(0, .ref mo), (1, .int told), (2, .int (nI u))] → W p l e ({ frames := 0, cells := 0, slots := 0, locals := 0 } : Room) s m ([.ref mo, .int told] : List Value).toArray below meth c H locs (0) (0) (MQ below (gQ D ka lo (gxi (fun r τ n => r = told ∧ n = sz ∧ (∃ A2 : sS, MoAt τ mo A2 ∧ tN A2 0 = recP P ∧ (∀ i : Nat, 1 ≤ i → i < 5 → tN A2 i = tN A i) ∧ (∀ j : Nat, 1 ≤ j → j ≠ 3 → A2 j = A j) ∧ (∀ k j : Nat, k < recP P → j < 292 → A2 3 (292 * k + j) = recH A P k j)) ∧ gAs (gZo mo 16) σ τ))) ([.ref mo, .int told] : List Value).toArray s 0 0 (gA lo)) (F0 m 56 ls []) := by
      intro fu_lq
      induction fu_lq with
      | zero => intro u hu hm_lq; exact absurd hm_lq (Nat.not_lt_zero _)
      | succ fu_lq ih_lq =>
        intro u hu hm_lq υ hMo hag hL H locs ls hz hP hS hl
        refine lv_iload_n hx hb dX8_done_56 rfl (lv_at hl 2 rfl) ?_
        refine lv_sipush (v := (nI 292)) hx hb dX8_done_57 (by decide) ?_
        refine g_icmp_ge (tgt := 90) (a := u) (b := 292) hx hb (by omega) (by omega) dX8_done_60 (by decide) (fun c60 => ?_) (fun c60 => ?_)
        · refine lv_aload_n hx hb dX8_done_90 rfl (lv_at hl 0 rfl) ?_
          refine lv_dup hx hb dX8_done_91 rfl ?_
          refine g_get (C := RX8) (T := TX8) (N := 20) hx hb hts hown hK hP hMo.c0 nX8_done_X8 rfl 3 (by decide) (by decide +kernel) rfl (v := .int (nI (tN (sRow B 3 (wrB (B 3) (B 2) (292 * q) u)) 0))) rfl dX8_done_92 ?_
          refine g_top (y := (nI q)) (congrArg nI hB0) ?_
          refine lv_iconst (v := (nI 1)) hx hb dX8_done_95 (by decide) ?_
          refine lv_iadd hx hb dX8_done_96 ?_
          refine g_top (nI_add q 1) ?_
          refine g_put (C := RX8) (T := TX8) (N := 20) hx hb hts hown hK hP hL hS hMo.c0 nX8_done_X8 tyX8 tyX8_ok nmX8 rfl 3 (by decide) (by decide +kernel) rfl rfl (v := .int (nI (q + 1))) rfl rfl (Nat.le_of_ble_eq_true rfl) dX8_done_97 (fun H locs hq hP hL hS => ?_)
          have hz := hq.trans hz
          obtain ⟨σ1, e1⟩ : ∃ υ0 : gS, υ0 = gup υ mo (gO 8 [.ref (mo + 1), .ref (mo + 2), .ref (mo + 3), .int (nI (q + 1)), .ref (mo + 4), .ref (mo + 5), .int (nI (tN (sRow B 3 (wrB (B 3) (B 2) (292 * q) u)) 1)), .ref (mo + 6), .int (nI (tN (sRow B 3 (wrB (B 3) (B 2) (292 * q) u)) 2)), .ref (mo + 7), .ref (mo + 8), .ref (mo + 9), .int (nI (tN (sRow B 3 (wrB (B 3) (B 2) (292 * q) u)) 3)), .ref (mo + 10), .ref (mo + 11), .ref (mo + 12), .int (nI (tN (sRow B 3 (wrB (B 3) (B 2) (292 * q) u)) 4)), .ref (mo + 13), .ref (mo + 14), .ref (mo + 15)]) := ⟨_, rfl⟩
          have hP : gH D ka σ1 H := by rw [e1]; exact hP
          have hL : gL lo σ1 := by rw [e1]; exact hL
          have hMo : MoAt σ1 mo (sPut (sRow B 3 (wrB (B 3) (B 2) (292 * q) u)) 0 0 (nI (q + 1))) := by rw [e1]; exact hMo.p3 (q + 1) (by omega)
          have hag := hag.upe e1 (zo_0 (by decide))
          refine lv_iload_n hx hb dX8_done_100 rfl (lv_at hl 1 rfl) ?_
          exact g_iret (z := sz) hx hb hr hlk hz hP hL hS dX8_done_101 (gxi_i ⟨rfl, rfl, ⟨_, hMo, by rw [tN_s (by omega), hqP], fun i h1 h2 => (tN_n (by omega)).trans (hBi i h1 h2), fun j h1 h2 => (sPut_n (by omega)).trans ((sRow_n h2).trans (hBr j h1 h2)), fun k j h1 h2 => by
        rw [sPut_n (by decide), sRow_s]
        by_cases c : k = q
        · subst c; rw [show u = 292 by omega, wrB_in h2, hB4, hBr 2 (by decide) (by decide)]
        · rw [wrB_out (by omega)]; exact hB3 k j (by omega) h2⟩, hag⟩)
        · refine lv_aload_n hx hb dX8_done_63 rfl (lv_at hl 0 rfl) ?_
          refine g_get (C := RX8) (T := TX8) (N := 20) hx hb hts hown hK hP hMo.c0 nX8_done_X8 rfl 2 (by decide) (by decide +kernel) rfl (v := .ref (mo + 3)) rfl dX8_done_64 ?_
          refine lv_sipush (v := (nI 292)) hx hb dX8_done_67 (by decide) ?_
          refine lv_aload_n hx hb dX8_done_70 rfl (lv_at hl 0 rfl) ?_
          refine g_get (C := RX8) (T := TX8) (N := 20) hx hb hts hown hK hP hMo.c0 nX8_done_X8 rfl 3 (by decide) (by decide +kernel) rfl (v := .int (nI (tN (sRow B 3 (wrB (B 3) (B 2) (292 * q) u)) 0))) rfl dX8_done_71 ?_
          refine g_top (y := (nI q)) (congrArg nI hB0) ?_
          refine lv_imul hx hb dX8_done_74 ?_
          refine g_top (pk_mul 292 q) ?_
          refine lv_iload_n hx hb dX8_done_75 rfl (lv_at hl 2 rfl) ?_
          refine lv_iadd hx hb dX8_done_76 ?_
          refine g_top (nI_add (292 * q) u) ?_
          refine lv_aload_n hx hb dX8_done_77 rfl (lv_at hl 0 rfl) ?_
          refine g_get (C := RX8) (T := TX8) (N := 20) hx hb hts hown hK hP hMo.c0 nX8_done_X8 rfl 1 (by decide) (by decide +kernel) rfl (v := .ref (mo + 2)) rfl dX8_done_78 ?_
          refine lv_iload_n hx hb dX8_done_81 rfl (lv_at hl 2 rfl) ?_
          refine g_iald hx hb hK hP hMo.c2 (i := nI u) (vp_in_nI (by omega) (by omega)) dX8_done_82 ?_
          rw [nI_clamp (n := u) (by omega)]
          refine g_iast hx hb hK hP hL hS hMo.c3 (i := nI ((292 * q) + u)) (vp_in_nI (by omega) (by omega)) dX8_done_83 (fun H locs hq hP hL hS => ?_)
          rw [nI_clamp (n := (292 * q) + u) (by omega)] at hP hL
          have hz := hq.trans hz
          obtain ⟨σ2, e2⟩ : ∃ υ0 : gS, υ0 = gup υ (mo + 3) (gI 1460 (upd ((sRow B 3 (wrB (B 3) (B 2) (292 * q) u)) 3) ((292 * q) + u) ((((sRow B 3 (wrB (B 3) (B 2) (292 * q) u)) 2) u)))) := ⟨_, rfl⟩
          have hP : gH D ka σ2 H := by rw [e2]; exact hP
          have hL : gL lo σ2 := by rw [e2]; exact hL
          have hMo : MoAt σ2 mo (sRow (sRow B 3 (wrB (B 3) (B 2) (292 * q) u)) 3 (upd ((sRow B 3 (wrB (B 3) (B 2) (292 * q) u)) 3) ((292 * q) + u) ((((sRow B 3 (wrB (B 3) (B 2) (292 * q) u)) 2) u)))) := by rw [e2]; exact hMo.w3 (upd ((sRow B 3 (wrB (B 3) (B 2) (292 * q) u)) 3) ((292 * q) + u) ((((sRow B 3 (wrB (B 3) (B 2) (292 * q) u)) 2) u)))
          have hag := hag.upe e2 (zo_k (by decide))
          refine lv_iinc (v := (nI (u + 1))) (lv' := [(2, .int (nI (u + 1))), (0, .ref mo), (1, .int told)]) hx hb dX8_done_84 hl (k := 2) rfl (g_inc u 1) (by decide) rfl (fun ls hl => ?_)
          refine lv_goto (tgt := 56) hx hb dX8_done_87 (by decide) ?_
          exact ih_lq (u + 1) (by omega) (by omega) σ2 (by rw [← his_s]; exact hMo) hag hL H locs ls hz hP hS (lv_sub hl [1, 2, 0] rfl)
    exact lq _ 0 (by omega) (Nat.lt_succ_self _) σ (by rw [wrB_0, sRow_id]; exact hMo) hag hL H locs ls hz hP hS (lv_sub hl [1, 2, 0] rfl)
  · refine lv_aload_n hx hb dX8_done_8 rfl (lv_at hl 0 rfl) ?_
    refine lv_dup hx hb dX8_done_9 rfl ?_
    refine g_get (C := RX8) (T := TX8) (N := 20) hx hb hts hown hK hP hMo.c0 nX8_done_X8 rfl 3 (by decide) (by decide +kernel) rfl (v := .int (nI (tN A 0))) rfl dX8_done_10 ?_
    refine lv_iconst (v := (nI 1)) hx hb dX8_done_13 (by decide) ?_
    refine lv_isub hx hb dX8_done_14 ?_
    refine g_top (pk_sub (by omega : 1 ≤ tN A 0)) ?_
    refine g_put (C := RX8) (T := TX8) (N := 20) hx hb hts hown hK hP hL hS hMo.c0 nX8_done_X8 tyX8 tyX8_ok nmX8 rfl 3 (by decide) (by decide +kernel) rfl rfl (v := .int (nI ((tN A 0) - 1))) rfl rfl (Nat.le_of_ble_eq_true rfl) dX8_done_15 (fun H locs hq hP hL hS => ?_)
    have hz := hq.trans hz
    obtain ⟨σ3, e3⟩ : ∃ υ0 : gS, υ0 = gup σ mo (gO 8 [.ref (mo + 1), .ref (mo + 2), .ref (mo + 3), .int (nI ((tN A 0) - 1)), .ref (mo + 4), .ref (mo + 5), .int (nI (tN A 1)), .ref (mo + 6), .int (nI (tN A 2)), .ref (mo + 7), .ref (mo + 8), .ref (mo + 9), .int (nI (tN A 3)), .ref (mo + 10), .ref (mo + 11), .ref (mo + 12), .int (nI (tN A 4)), .ref (mo + 13), .ref (mo + 14), .ref (mo + 15)]) := ⟨_, rfl⟩
    have hP : gH D ka σ3 H := by rw [e3]; exact hP
    have hL : gL lo σ3 := by rw [e3]; exact hL
    have hMo : MoAt σ3 mo (sPut A 0 0 (nI ((tN A 0) - 1))) := by rw [e3]; exact hMo.p3 ((tN A 0) - 1) (by omega)
    have hag := hag.upe e3 (zo_0 (by decide))
    obtain ⟨A1, hMo, hA10, hA1i, hA1r⟩ : ∃ A1 : sS, MoAt σ3 mo A1 ∧ tN A1 0 = 4 ∧ (∀ i : Nat, 1 ≤ i → i < 5 → tN A1 i = tN A i) ∧ (∀ j : Nat, j ≠ 0 → A1 j = A j) := ⟨_, hMo, by rw [tN_s (by omega), c5], fun i h1 h2 => tN_n (by omega), fun j hj => sPut_n hj⟩
    refine lv_iconst (v := (nI 0)) hx hb dX8_done_18 (by decide) ?_
    refine lv_istore_n (lv' := [(2, .int (nI 0)), (0, .ref mo), (1, .int told)]) hx hb dX8_done_19 rfl hl (by decide) rfl (fun ls hl => ?_)
    have lp : ∀ (fu_lp : Nat) (u : Nat), (u ≤ 1168) → (1168 - u < fu_lp) → ∀ (υ : gS), (MoAt υ mo (sRow A1 3 (shH (A1 3) u))) → (gAs (gZo mo 16) σ υ) → gL lo υ → ∀ (H : Heap) (locs : List Loc) (ls : Array Slot), H.size = sz → gH D ka υ H → va_S (gA lo) s.heap H locs → lv_has ls 3 [(0, .ref mo), (1, .int told), (2, .int (nI u))] → W p l e ({ frames := 0, cells := 0, slots := 0, locals := 0 } : Room) s m ([.ref mo, .int told] : List Value).toArray below meth c H locs (0) (0) (MQ below (gQ D ka lo (gxi (fun r τ n => r = told ∧ n = sz ∧ (∃ A2 : sS, MoAt τ mo A2 ∧ tN A2 0 = recP P ∧ (∀ i : Nat, 1 ≤ i → i < 5 → tN A2 i = tN A i) ∧ (∀ j : Nat, 1 ≤ j → j ≠ 3 → A2 j = A j) ∧ (∀ k j : Nat, k < recP P → j < 292 → A2 3 (292 * k + j) = recH A P k j)) ∧ gAs (gZo mo 16) σ τ))) ([.ref mo, .int told] : List Value).toArray s 0 0 (gA lo)) (F0 m 20 ls []) := by
      intro fu_lp
      induction fu_lp with
      | zero => intro u hu hm_lp; exact absurd hm_lp (Nat.not_lt_zero _)
      | succ fu_lp ih_lp =>
        intro u hu hm_lp υ hMo hag hL H locs ls hz hP hS hl
        refine lv_iload_n hx hb dX8_done_20 rfl (lv_at hl 2 rfl) ?_
        refine lv_sipush (v := (nI 292)) hx hb dX8_done_21 (by decide) ?_
        refine lv_aload_n hx hb dX8_done_24 rfl (lv_at hl 0 rfl) ?_
        refine g_get (C := RX8) (T := TX8) (N := 20) hx hb hts hown hK hP hMo.c0 nX8_done_X8 rfl 3 (by decide) (by decide +kernel) rfl (v := .int (nI (tN (sRow A1 3 (shH (A1 3) u)) 0))) rfl dX8_done_25 ?_
        refine g_top (y := (nI 4)) (congrArg nI hA10) ?_
        refine lv_imul hx hb dX8_done_28 ?_
        refine g_top (pk_mul 292 4) ?_
        refine g_icmp_ge (tgt := 54) (a := u) (b := 292 * 4) hx hb (by omega) (by omega) dX8_done_29 (by decide) (fun c29 => ?_) (fun c29 => ?_)
        · obtain ⟨B, q, hMo, hB0, hq4, hqP, hBi, hBr, hB3, hB4⟩ : ∃ (B : sS) (q : Nat), MoAt υ mo B ∧ tN B 0 = q ∧ q ≤ 4 ∧ recP P = q + 1 ∧ (∀ i : Nat, 1 ≤ i → i < 5 → tN B i = tN A i) ∧ (∀ j : Nat, 1 ≤ j → j ≠ 3 → B j = A j) ∧ (∀ k j : Nat, k < q → j < 292 → B 3 (292 * k + j) = recH A P k j) ∧ (∀ j : Nat, recH A P q j = A 2 j) := ⟨_, 4, hMo, hA10, by omega, by rw [recP, if_neg (by omega)], fun i h1 h2 => hA1i i h1 h2, fun j h1 h2 => (sRow_n h2).trans (hA1r j (by omega)), fun k j h1 h2 => by rw [sRow_s, recH, if_neg (by omega), if_neg (by omega), hA1r 3 (by decide)]; simp only [shH]; rw [if_pos (by omega), show 292 * k + j + 292 = 292 * (k + 1) + j by omega], fun j => by rw [recH, if_neg (by omega), if_pos rfl]⟩
          refine lv_iconst (v := (nI 0)) hx hb dX8_done_54 (by decide) ?_
          refine lv_istore_n (lv' := [(2, .int (nI 0)), (0, .ref mo), (1, .int told)]) hx hb dX8_done_55 rfl hl (by decide) rfl (fun ls hl => ?_)
          have lq : ∀ (fu_lq : Nat) (u : Nat), (u ≤ 292) → (292 - u < fu_lq) → ∀ (υ : gS), (MoAt υ mo (sRow B 3 (wrB (B 3) (B 2) (292 * q) u))) → (gAs (gZo mo 16) σ υ) → gL lo υ → ∀ (H : Heap) (locs : List Loc) (ls : Array Slot), H.size = sz → gH D ka υ H → va_S (gA lo) s.heap H locs → lv_has ls 3 [(0, .ref mo), (1, .int told), (2, .int (nI u))] → W p l e ({ frames := 0, cells := 0, slots := 0, locals := 0 } : Room) s m ([.ref mo, .int told] : List Value).toArray below meth c H locs (0) (0) (MQ below (gQ D ka lo (gxi (fun r τ n => r = told ∧ n = sz ∧ (∃ A2 : sS, MoAt τ mo A2 ∧ tN A2 0 = recP P ∧ (∀ i : Nat, 1 ≤ i → i < 5 → tN A2 i = tN A i) ∧ (∀ j : Nat, 1 ≤ j → j ≠ 3 → A2 j = A j) ∧ (∀ k j : Nat, k < recP P → j < 292 → A2 3 (292 * k + j) = recH A P k j)) ∧ gAs (gZo mo 16) σ τ))) ([.ref mo, .int told] : List Value).toArray s 0 0 (gA lo)) (F0 m 56 ls []) := by
            intro fu_lq
            induction fu_lq with
            | zero => intro u hu hm_lq; exact absurd hm_lq (Nat.not_lt_zero _)
            | succ fu_lq ih_lq =>
              intro u hu hm_lq υ hMo hag hL H locs ls hz hP hS hl
              refine lv_iload_n hx hb dX8_done_56 rfl (lv_at hl 2 rfl) ?_
              refine lv_sipush (v := (nI 292)) hx hb dX8_done_57 (by decide) ?_
              refine g_icmp_ge (tgt := 90) (a := u) (b := 292) hx hb (by omega) (by omega) dX8_done_60 (by decide) (fun c60 => ?_) (fun c60 => ?_)
              · refine lv_aload_n hx hb dX8_done_90 rfl (lv_at hl 0 rfl) ?_
                refine lv_dup hx hb dX8_done_91 rfl ?_
                refine g_get (C := RX8) (T := TX8) (N := 20) hx hb hts hown hK hP hMo.c0 nX8_done_X8 rfl 3 (by decide) (by decide +kernel) rfl (v := .int (nI (tN (sRow B 3 (wrB (B 3) (B 2) (292 * q) u)) 0))) rfl dX8_done_92 ?_
                refine g_top (y := (nI q)) (congrArg nI hB0) ?_
                refine lv_iconst (v := (nI 1)) hx hb dX8_done_95 (by decide) ?_
                refine lv_iadd hx hb dX8_done_96 ?_
                refine g_top (nI_add q 1) ?_
                refine g_put (C := RX8) (T := TX8) (N := 20) hx hb hts hown hK hP hL hS hMo.c0 nX8_done_X8 tyX8 tyX8_ok nmX8 rfl 3 (by decide) (by decide +kernel) rfl rfl (v := .int (nI (q + 1))) rfl rfl (Nat.le_of_ble_eq_true rfl) dX8_done_97 (fun H locs hq hP hL hS => ?_)
                have hz := hq.trans hz
                obtain ⟨σ4, e4⟩ : ∃ υ0 : gS, υ0 = gup υ mo (gO 8 [.ref (mo + 1), .ref (mo + 2), .ref (mo + 3), .int (nI (q + 1)), .ref (mo + 4), .ref (mo + 5), .int (nI (tN (sRow B 3 (wrB (B 3) (B 2) (292 * q) u)) 1)), .ref (mo + 6), .int (nI (tN (sRow B 3 (wrB (B 3) (B 2) (292 * q) u)) 2)), .ref (mo + 7), .ref (mo + 8), .ref (mo + 9), .int (nI (tN (sRow B 3 (wrB (B 3) (B 2) (292 * q) u)) 3)), .ref (mo + 10), .ref (mo + 11), .ref (mo + 12), .int (nI (tN (sRow B 3 (wrB (B 3) (B 2) (292 * q) u)) 4)), .ref (mo + 13), .ref (mo + 14), .ref (mo + 15)]) := ⟨_, rfl⟩
                have hP : gH D ka σ4 H := by rw [e4]; exact hP
                have hL : gL lo σ4 := by rw [e4]; exact hL
                have hMo : MoAt σ4 mo (sPut (sRow B 3 (wrB (B 3) (B 2) (292 * q) u)) 0 0 (nI (q + 1))) := by rw [e4]; exact hMo.p3 (q + 1) (by omega)
                have hag := hag.upe e4 (zo_0 (by decide))
                refine lv_iload_n hx hb dX8_done_100 rfl (lv_at hl 1 rfl) ?_
                exact g_iret (z := sz) hx hb hr hlk hz hP hL hS dX8_done_101 (gxi_i ⟨rfl, rfl, ⟨_, hMo, by rw [tN_s (by omega), hqP], fun i h1 h2 => (tN_n (by omega)).trans (hBi i h1 h2), fun j h1 h2 => (sPut_n (by omega)).trans ((sRow_n h2).trans (hBr j h1 h2)), fun k j h1 h2 => by
        rw [sPut_n (by decide), sRow_s]
        by_cases c : k = q
        · subst c; rw [show u = 292 by omega, wrB_in h2, hB4, hBr 2 (by decide) (by decide)]
        · rw [wrB_out (by omega)]; exact hB3 k j (by omega) h2⟩, hag⟩)
              · refine lv_aload_n hx hb dX8_done_63 rfl (lv_at hl 0 rfl) ?_
                refine g_get (C := RX8) (T := TX8) (N := 20) hx hb hts hown hK hP hMo.c0 nX8_done_X8 rfl 2 (by decide) (by decide +kernel) rfl (v := .ref (mo + 3)) rfl dX8_done_64 ?_
                refine lv_sipush (v := (nI 292)) hx hb dX8_done_67 (by decide) ?_
                refine lv_aload_n hx hb dX8_done_70 rfl (lv_at hl 0 rfl) ?_
                refine g_get (C := RX8) (T := TX8) (N := 20) hx hb hts hown hK hP hMo.c0 nX8_done_X8 rfl 3 (by decide) (by decide +kernel) rfl (v := .int (nI (tN (sRow B 3 (wrB (B 3) (B 2) (292 * q) u)) 0))) rfl dX8_done_71 ?_
                refine g_top (y := (nI q)) (congrArg nI hB0) ?_
                refine lv_imul hx hb dX8_done_74 ?_
                refine g_top (pk_mul 292 q) ?_
                refine lv_iload_n hx hb dX8_done_75 rfl (lv_at hl 2 rfl) ?_
                refine lv_iadd hx hb dX8_done_76 ?_
                refine g_top (nI_add (292 * q) u) ?_
                refine lv_aload_n hx hb dX8_done_77 rfl (lv_at hl 0 rfl) ?_
                refine g_get (C := RX8) (T := TX8) (N := 20) hx hb hts hown hK hP hMo.c0 nX8_done_X8 rfl 1 (by decide) (by decide +kernel) rfl (v := .ref (mo + 2)) rfl dX8_done_78 ?_
                refine lv_iload_n hx hb dX8_done_81 rfl (lv_at hl 2 rfl) ?_
                refine g_iald hx hb hK hP hMo.c2 (i := nI u) (vp_in_nI (by omega) (by omega)) dX8_done_82 ?_
                rw [nI_clamp (n := u) (by omega)]
                refine g_iast hx hb hK hP hL hS hMo.c3 (i := nI ((292 * q) + u)) (vp_in_nI (by omega) (by omega)) dX8_done_83 (fun H locs hq hP hL hS => ?_)
                rw [nI_clamp (n := (292 * q) + u) (by omega)] at hP hL
                have hz := hq.trans hz
                obtain ⟨σ5, e5⟩ : ∃ υ0 : gS, υ0 = gup υ (mo + 3) (gI 1460 (upd ((sRow B 3 (wrB (B 3) (B 2) (292 * q) u)) 3) ((292 * q) + u) ((((sRow B 3 (wrB (B 3) (B 2) (292 * q) u)) 2) u)))) := ⟨_, rfl⟩
                have hP : gH D ka σ5 H := by rw [e5]; exact hP
                have hL : gL lo σ5 := by rw [e5]; exact hL
                have hMo : MoAt σ5 mo (sRow (sRow B 3 (wrB (B 3) (B 2) (292 * q) u)) 3 (upd ((sRow B 3 (wrB (B 3) (B 2) (292 * q) u)) 3) ((292 * q) + u) ((((sRow B 3 (wrB (B 3) (B 2) (292 * q) u)) 2) u)))) := by rw [e5]; exact hMo.w3 (upd ((sRow B 3 (wrB (B 3) (B 2) (292 * q) u)) 3) ((292 * q) + u) ((((sRow B 3 (wrB (B 3) (B 2) (292 * q) u)) 2) u)))
                have hag := hag.upe e5 (zo_k (by decide))
                refine lv_iinc (v := (nI (u + 1))) (lv' := [(2, .int (nI (u + 1))), (0, .ref mo), (1, .int told)]) hx hb dX8_done_84 hl (k := 2) rfl (g_inc u 1) (by decide) rfl (fun ls hl => ?_)
                refine lv_goto (tgt := 56) hx hb dX8_done_87 (by decide) ?_
                exact ih_lq (u + 1) (by omega) (by omega) σ5 (by rw [← his_s]; exact hMo) hag hL H locs ls hz hP hS (lv_sub hl [1, 2, 0] rfl)
          exact lq _ 0 (by omega) (Nat.lt_succ_self _) υ (by rw [wrB_0, sRow_id]; exact hMo) hag hL H locs ls hz hP hS (lv_sub hl [1, 2, 0] rfl)
        · refine lv_aload_n hx hb dX8_done_32 rfl (lv_at hl 0 rfl) ?_
          refine g_get (C := RX8) (T := TX8) (N := 20) hx hb hts hown hK hP hMo.c0 nX8_done_X8 rfl 2 (by decide) (by decide +kernel) rfl (v := .ref (mo + 3)) rfl dX8_done_33 ?_
          refine lv_iload_n hx hb dX8_done_36 rfl (lv_at hl 2 rfl) ?_
          refine lv_aload_n hx hb dX8_done_37 rfl (lv_at hl 0 rfl) ?_
          refine g_get (C := RX8) (T := TX8) (N := 20) hx hb hts hown hK hP hMo.c0 nX8_done_X8 rfl 2 (by decide) (by decide +kernel) rfl (v := .ref (mo + 3)) rfl dX8_done_38 ?_
          refine lv_iload_n hx hb dX8_done_41 rfl (lv_at hl 2 rfl) ?_
          refine lv_sipush (v := (nI 292)) hx hb dX8_done_42 (by decide) ?_
          refine lv_iadd hx hb dX8_done_45 ?_
          refine g_top (nI_add u 292) ?_
          refine g_iald hx hb hK hP hMo.c3 (i := nI (u + 292)) (vp_in_nI (by omega) (by omega)) dX8_done_46 ?_
          rw [nI_clamp (n := u + 292) (by omega)]
          refine g_iast hx hb hK hP hL hS hMo.c3 (i := nI u) (vp_in_nI (by omega) (by omega)) dX8_done_47 (fun H locs hq hP hL hS => ?_)
          rw [nI_clamp (n := u) (by omega)] at hP hL
          have hz := hq.trans hz
          obtain ⟨σ6, e6⟩ : ∃ υ0 : gS, υ0 = gup υ (mo + 3) (gI 1460 (upd ((sRow A1 3 (shH (A1 3) u)) 3) u ((((sRow A1 3 (shH (A1 3) u)) 3) (u + 292))))) := ⟨_, rfl⟩
          have hP : gH D ka σ6 H := by rw [e6]; exact hP
          have hL : gL lo σ6 := by rw [e6]; exact hL
          have hMo : MoAt σ6 mo (sRow (sRow A1 3 (shH (A1 3) u)) 3 (upd ((sRow A1 3 (shH (A1 3) u)) 3) u ((((sRow A1 3 (shH (A1 3) u)) 3) (u + 292))))) := by rw [e6]; exact hMo.w3 (upd ((sRow A1 3 (shH (A1 3) u)) 3) u ((((sRow A1 3 (shH (A1 3) u)) 3) (u + 292))))
          have hag := hag.upe e6 (zo_k (by decide))
          refine lv_iinc (v := (nI (u + 1))) (lv' := [(2, .int (nI (u + 1))), (0, .ref mo), (1, .int told)]) hx hb dX8_done_48 hl (k := 2) rfl (g_inc u 1) (by decide) rfl (fun ls hl => ?_)
          refine lv_goto (tgt := 20) hx hb dX8_done_51 (by decide) ?_
          exact ih_lp (u + 1) (by omega) (by omega) σ6 (by rw [← shH_s]; exact hMo) hag hL H locs ls hz hP hS (lv_sub hl [1, 2, 0] rfl)
    exact lp _ 0 (by omega) (Nat.lt_succ_self _) σ3 (by rw [shH_0]; exact hMo) hag hL H locs ls hz hP hS (lv_sub hl [1, 2, 0] rfl)
