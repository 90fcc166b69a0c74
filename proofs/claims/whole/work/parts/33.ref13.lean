/-! the breath that suffices -/
theorem Rr.setBr {S : sS} {f g : Nat → Int32} {i : Nat} {v : Int32} (h : Rr S f) (hk : okS S) (hi : i < sN S) (hg : ∀ x, x ≠ 196 + 3 * i → g x = f x) (hv : g (196 + 3 * i) = v) : Rr (sRow S 3 (upd (S 3) i v)) g := by
  obtain ⟨hB, hN, hK, hR⟩ := hk
  refine ⟨⟨by rw [hg _ (by omega)]; exact h.b0, by rw [hg _ (by omega)]; exact h.n1, by rw [hg _ (by omega)]; exact h.k2, by rw [hg _ (by omega)]; exact h.r3⟩, fun b hb => ⟨?_, ?_⟩, fun i2 j hi2 hj => ?_, fun i2 b hi2 hb => ?_, fun k2 j hk2 hj => ?_⟩
  · have hb : b < sB S := hb
    rw [hg _ (by omega)]; exact h.so hb
  · have hb : b < sB S := hb
    rw [hg _ (by omega)]; exact h.lo hb
  · have hi2 : i2 < sN S := hi2
    have e0 := h.si hi2 hj
    have e3 : sRow S 3 (upd (S 3) i v) 3 = upd (S 3) i v := rfl
    rcases (show j = 0 ∨ j = 1 ∨ j = 2 by omega) with rfl | rfl | rfl
    · show g (196 + 3 * i2) = sRow S 3 (upd (S 3) i v) 3 i2
      rw [e3]
      by_cases c : i2 = i
      · subst c; rw [hv, upd_s]
      · rw [hg _ (by omega), upd_n c]; exact e0
    · rw [hg _ (by omega)]; exact e0
    · rw [hg _ (by omega)]; exact e0
  · have hi2 : i2 < sN S := hi2
    have hb : b < sB S := hb
    rw [hg _ (by omega)]; exact h.mk hi2 hb
  · have hk2 : k2 < sK S := hk2
    have e : sRow S 3 (upd (S 3) i v) (5 + j) = S (5 + j) := sRow_n (by omega)
    rw [hg _ (by omega), e]; exact h.ks hk2 hj
theorem leftF_3 (S : sS) (f : Nat → Int32) (i : Nat) (br : Int32) : ∀ b, leftF (sRow S 3 f) i br b = leftF S i br b
  | 0 => rfl
  | b + 1 => by rw [leftF, leftF, leftF_3 S f i br b]; rfl
theorem dosF_3 (S : sS) (f : Nat → Int32) (i : Nat) (br : Int32) (b : Nat) : dosF (sRow S 3 f) i br b = dosF S i br b := by
  rw [dosF, dosF, leftF_3]; rfl
def Lv1 (S A : sS) (i b : Nat) : Prop := ∀ b2 : Nat, b2 < b → A 10 (96 * i + b2) = nI (dosQ S i b2) ∧ A 11 (96 * i + b2) = leftF S i (S 3 i) (b2 + 1)
theorem Lv1.step {S A : sS} {i b : Nat} (h : Lv1 S A i b) : Lv1 S (livA S A i b) i (b + 1) := by
  have la : laI S A i b = leftF S i (S 3 i) b := by
    rw [laI]
    by_cases c : b = 0
    · rw [if_pos c, c]; rfl
    · rw [if_neg c]
      have := (h (b - 1) (by omega)).2
      rw [show 96 * i + b - 1 = 96 * i + (b - 1) by omega, this, show b - 1 + 1 = b by omega]
  intro b2 hc
  have e10 : livA S A i b 10 = upd (A 10) (96 * i + b) (nI (doN S i b (laI S A i b))) := rfl
  have e11 : livA S A i b 11 = upd (A 11) (96 * i + b) (gtF S b (fun i => laI S A i b) i) := rfl
  rw [e10, e11]
  by_cases c : b2 = b
  · subst c
    rw [upd_s, upd_s, la]
    refine ⟨rfl, ?_⟩
    rw [gtF, la]
    rfl
  · rw [upd_n (by omega), upd_n (by omega)]
    exact h b2 (by omega)
theorem br_cnt {S : sS} {i w : Nat} {A : sS} (h : Lv1 (sRow S 3 (upd (S 3) i (nI w))) A i (sB S)) : cntF (fun b => decide (A 10 (96 * i + b) = nI 2)) (sB S) = cntF (fun j => decide (nI (dosF S i (nI w) j) = nI 2)) (sB S) := by
  apply cntF_c
  intro b hb
  have e : sRow S 3 (upd (S 3) i (nI w)) 3 i = nI w := by rw [sRow_s, upd_s]
  have := (h b hb).1
  rw [this]
  show decide (nI (dosF (sRow S 3 (upd (S 3) i (nI w))) i (sRow S 3 (upd (S 3) i (nI w)) 3 i) b) = nI 2) = _
  rw [e, dosF_3]
theorem br_n {S : sS} {i w : Nat} (hw : 0 < w) (hw2 : w ≤ 37) (h : cntF (fun j => decide (nI (dosF S i (nI (w + 3)) j) = nI 2)) (sB S) ≠ 0) : firstK (gasB S i) (37 - (w - 1)) (w - 1 + 4) = firstK (gasB S i) (37 - w) (w + 4) := by
  have hg : gasB S i (w + 3) = false := decide_eq_false h
  rw [show 37 - (w - 1) = (37 - w) + 1 by omega, show w - 1 + 4 = w + 3 by omega, firstK, if_neg (by rw [hg]; decide)]
theorem br_0 {p : Nat → Bool} {w : Nat} (h : w = 0) : firstK p (37 - w) (w + 4) = firstK p 37 4 := by subst h; rfl
theorem br_y {S : sS} {i w : Nat} (hw : 0 < w) (hw2 : w ≤ 37) (h : cntF (fun j => decide (nI (dosF S i (nI (w + 3)) j) = nI 2)) (sB S) = 0) : firstK (gasB S i) (37 - (w - 1)) (w - 1 + 4) = some (w + 3) := by
  have hg : gasB S i (w + 3) = true := decide_eq_true h
  rw [show 37 - (w - 1) = (37 - w) + 1 by omega, show w - 1 + 4 = w + 3 by omega, firstK, if_pos hg]
theorem nX8_breathFor_X8 : ∀ w ∈ wsX80, w ∈ wsX8_breathFor := by decide +kernel
set_option maxHeartbeats 4000000 in
set_option maxRecDepth 100000 in
theorem c_X8_breathFor (l : Launch) (mo : Nat) (S : sS) (tf : Nat → Int32) (tn P : Nat) (C : Nat → sS) (kp : Nat → Bool) (a1 : Int32) (σ : gS) (sz : Nat) (hW : Me σ mo S tf tn P C kp) (hok : okS S) (hokC : ∀ k : Nat, k < P → okS (C k)) : gM l yX8_breathFor wsX8_breathFor ({ frames := 4, cells := 0, slots := 0, locals := 91 } : Room) 0 0 [.ref mo, .int a1] σ sz (gxi (fun r τ n => r = t_breath S a1 ∧ Me τ mo S tf tn P C kp ∧ n = sz ∧ gAs (gZo mo 16) σ τ)) := by
  refine gM_of (cc := cX8_breathFor) (maxL := 6) (ret := (some .int)) (by decide) rfl (Nat.le_of_ble_eq_true rfl) ?_
  intro D ka lo hL hlo p e s m below meth c hx hb hr hts hown hml hlk hnm hK H locs ls hz hP hS hl
  have hl : lv_has ls 6 [(0, .ref mo), (1, .int a1)] := hl
  have hown : s.vm.findClass RX8 = some m.cls := hown
  obtain ⟨A, hMo, hA⟩ := hW
  have hR := hA.2.2.1
  have hR0 := hR
  have hP0 := hA.1
  have htn0 := hA.2.1
  have hP5 : P ≤ 5 := hA.2.2.2.2.2.2.2.2
  have htn : tn ≤ 60 := hA.2.2.2.2.2.2.2.1
  obtain ⟨hB, hN, hKs, hRs⟩ := id hok
  have hag : gAs (gZo mo 16) σ σ := gAs.rf
  refine lv_aload_n hx hb dX8_breathFor_0 rfl (lv_at hl 0 rfl) ?_
  refine lv_iload_n hx hb dX8_breathFor_1 rfl (lv_at hl 1 rfl) ?_
  refine g_runV (As := [.int a1]) (rest := []) (own := RX8) (C := RX8) (T := TX8) (N := 20) 1 hx hb hml hown hts hK hz hP hL hS hlo hl.1 (c_X8_noSinger l mo A S a1 σ sz hMo hR (by omega)) gX8_breathFor_X8_noSinger rfl rfl rfl (by decide +kernel) ⟨Nat.le_of_ble_eq_true rfl, Nat.le_of_ble_eq_true rfl⟩ hMo.c0 rfl rfl rfl (Nat.le_of_ble_eq_true rfl) dX8_breathFor_2 ⟨Nat.le_of_ble_eq_true rfl, Nat.le_of_ble_eq_true rfl⟩ (g_ki0 (fun H locs hz hP hL hS => ?_))
  refine g_ifb_eq (tgt := 10) hx hb dX8_breathFor_5 (by decide) (fun c5 => ?_) (fun c5 => ?_)
  · have c5 : inN a1 (sN S) = true := by simpa using c5
    obtain ⟨ha1e, ha1l⟩ := tk_in c5 (by omega)
    refine lv_aload_n hx hb dX8_breathFor_10 rfl (lv_at hl 0 rfl) ?_
    refine lv_iload_n hx hb dX8_breathFor_11 rfl (lv_at hl 1 rfl) ?_
    refine g_top (y := (nI (tk a1))) ha1e ?_
    refine lv_iconst (v := (nI 0)) hx hb dX8_breathFor_12 (by decide) ?_
    refine g_runV (As := [.int (nI (tk a1)), .int (nI 0)]) (rest := []) (own := RX8) (C := RX8) (T := TX8) (N := 20) 2 hx hb hml hown hts hK hz hP hL hS hlo hl.1 (c_X8_of l mo A S (tk a1) 0 σ sz hMo hR (by omega) (by omega) (by omega)) gX8_breathFor_X8_of rfl rfl rfl (by decide +kernel) ⟨Nat.le_of_ble_eq_true rfl, Nat.le_of_ble_eq_true rfl⟩ hMo.c0 rfl rfl rfl (Nat.le_of_ble_eq_true rfl) dX8_breathFor_13 ⟨Nat.le_of_ble_eq_true rfl, Nat.le_of_ble_eq_true rfl⟩ (g_ki0 (fun H locs hz hP hL hS => ?_))
    refine lv_istore_n (lv' := [(2, .int (S 3 (tk a1))), (0, .ref mo), (1, .int a1)]) hx hb dX8_breathFor_16 rfl hl (by decide) rfl (fun ls hl => ?_)
    refine lv_bipush (v := (-5)) hx hb dX8_breathFor_17 (by decide) ?_
    refine g_top (y := (oI (firstK (gasB S (tk a1)) (37 - 37) (37 + 4)))) rfl ?_
    refine lv_istore_n (lv' := [(3, .int (oI (firstK (gasB S (tk a1)) (37 - 37) (37 + 4)))), (2, .int (S 3 (tk a1))), (0, .ref mo), (1, .int a1)]) hx hb dX8_breathFor_19 rfl hl (by decide) rfl (fun ls hl => ?_)
    refine lv_bipush (v := (nI 40)) hx hb dX8_breathFor_20 (by decide) ?_
    refine g_top (y := (nI (37 + 3))) rfl ?_
    refine lv_istore (lv' := [(4, .int (nI (37 + 3))), (3, .int (oI (firstK (gasB S (tk a1)) (37 - 37) (37 + 4)))), (2, .int (S 3 (tk a1))), (0, .ref mo), (1, .int a1)]) hx hb dX8_breathFor_22 hl (by decide) rfl (fun ls hl => ?_)
    have lp : ∀ (fu_lp : Nat) (w : Nat), (w ≤ 37) → (w < fu_lp) → ∀ (υ : gS), (∃ A2 : sS, MoAt υ mo A2 ∧ (∀ j : Nat, j ≠ 1 → j ≤ 6 → A2 j = A j) ∧ (∀ x : Nat, x ≠ 196 + 3 * tk a1 → A2 1 x = A 1 x)) → (gAs (gZo mo 16) σ υ) → gL lo υ → ∀ (H : Heap) (locs : List Loc) (ls : Array Slot), H.size = sz → gH D ka υ H → va_S (gA lo) s.heap H locs → lv_has ls 6 [(0, .ref mo), (1, .int a1), (2, .int (S 3 (tk a1))), (3, .int (oI (firstK (gasB S (tk a1)) (37 - w) (w + 4)))), (4, .int (nI (w + 3)))] → W p l e ({ frames := 4, cells := 0, slots := 0, locals := 91 } : Room) s m ([.ref mo, .int a1] : List Value).toArray below meth c H locs (0) (0) (MQ below (gQ D ka lo (gxi (fun r τ n => r = t_breath S a1 ∧ Me τ mo S tf tn P C kp ∧ n = sz ∧ gAs (gZo mo 16) σ τ))) ([.ref mo, .int a1] : List Value).toArray s 0 0 (gA lo)) (F0 m 24 ls []) := by
      intro fu_lp
      induction fu_lp with
      | zero => intro w hw hm_lp; exact absurd hm_lp (Nat.not_lt_zero _)
      | succ fu_lp ih_lp =>
        intro w hw hm_lp υ hEx hag hL H locs ls hz hP hS hl
        obtain ⟨A1, hMo, hAr, hA1⟩ := hEx
        refine lv_iload hx hb dX8_breathFor_24 (lv_at hl 4 rfl) ?_
        refine lv_iconst (v := (nI 4)) hx hb dX8_breathFor_26 (by decide) ?_
        refine g_icmp_lt (tgt := 91) (a := w + 3) (b := 4) hx hb (by omega) (by omega) dX8_breathFor_27 (by decide) (fun c27 => ?_) (fun c27 => ?_)
        · refine lv_aload_n hx hb dX8_breathFor_91 rfl (lv_at hl 0 rfl) ?_
          refine g_get (C := RX8) (T := TX8) (N := 20) hx hb hts hown hK hP hMo.c0 nX8_breathFor_X8 rfl 0 (by decide) (by decide +kernel) rfl (v := .ref (mo + 1)) rfl dX8_breathFor_92 ?_
          refine lv_sipush (v := (nI 196)) hx hb dX8_breathFor_95 (by decide) ?_
          refine lv_iconst (v := (nI 3)) hx hb dX8_breathFor_98 (by decide) ?_
          refine lv_iload_n hx hb dX8_breathFor_99 rfl (lv_at hl 1 rfl) ?_
          refine g_top (y := (nI (tk a1))) ha1e ?_
          refine lv_imul hx hb dX8_breathFor_100 ?_
          refine g_top (pk_mul 3 (tk a1)) ?_
          refine lv_iadd hx hb dX8_breathFor_101 ?_
          refine g_top (nI_add 196 (3 * (tk a1))) ?_
          refine lv_iload_n hx hb dX8_breathFor_102 rfl (lv_at hl 2 rfl) ?_
          refine g_iast hx hb hK hP hL hS hMo.c1 (i := nI (196 + (3 * (tk a1)))) (vp_in_nI (by omega) (by omega)) dX8_breathFor_103 (fun H locs hq hP hL hS => ?_)
          rw [nI_clamp (n := 196 + (3 * (tk a1))) (by omega)] at hP hL
          have hz := hq.trans hz
          obtain ⟨σ2, e2⟩ : ∃ υ0 : gS, υ0 = gup υ (mo + 1) (gI 292 (upd (A1 1) (196 + (3 * (tk a1))) ((S 3 (tk a1))))) := ⟨_, rfl⟩
          have hP : gH D ka σ2 H := by rw [e2]; exact hP
          have hL : gL lo σ2 := by rw [e2]; exact hL
          have hMo : MoAt σ2 mo (sRow A1 1 (upd (A1 1) (196 + (3 * (tk a1))) ((S 3 (tk a1))))) := by rw [e2]; exact hMo.w1 (upd (A1 1) (196 + (3 * (tk a1))) ((S 3 (tk a1))))
          have hag := hag.upe e2 (zo_k (by decide))
          refine lv_iload_n hx hb dX8_breathFor_104 rfl (lv_at hl 3 rfl) ?_
          exact g_iret (z := sz) hx hb hr hlk hz hP hL hS dX8_breathFor_105 (gxi_i ⟨by rw [t_breath, if_pos c5]; exact congrArg oI (br_0 (by omega)), ⟨_, hMo, MeP.scr hA (fun j h1 h2 => by
        by_cases c : j = 1
        · subst c
          rw [sRow_s]
          funext x
          by_cases c2 : x = 196 + 3 * tk a1
          · rw [c2, upd_s]; exact (hR0.si (j := 0) ha1l (by decide)).symm
          · rw [upd_n c2]; exact hA1 x c2
        · exact (sRow_n c).trans (hAr j c h1))⟩, rfl, hag⟩)
        · refine lv_aload_n hx hb dX8_breathFor_30 rfl (lv_at hl 0 rfl) ?_
          refine g_get (C := RX8) (T := TX8) (N := 20) hx hb hts hown hK hP hMo.c0 nX8_breathFor_X8 rfl 0 (by decide) (by decide +kernel) rfl (v := .ref (mo + 1)) rfl dX8_breathFor_31 ?_
          refine lv_sipush (v := (nI 196)) hx hb dX8_breathFor_34 (by decide) ?_
          refine lv_iconst (v := (nI 3)) hx hb dX8_breathFor_37 (by decide) ?_
          refine lv_iload_n hx hb dX8_breathFor_38 rfl (lv_at hl 1 rfl) ?_
          refine g_top (y := (nI (tk a1))) ha1e ?_
          refine lv_imul hx hb dX8_breathFor_39 ?_
          refine g_top (pk_mul 3 (tk a1)) ?_
          refine lv_iadd hx hb dX8_breathFor_40 ?_
          refine g_top (nI_add 196 (3 * (tk a1))) ?_
          refine lv_iload hx hb dX8_breathFor_41 (lv_at hl 4 rfl) ?_
          refine g_iast hx hb hK hP hL hS hMo.c1 (i := nI (196 + (3 * (tk a1)))) (vp_in_nI (by omega) (by omega)) dX8_breathFor_43 (fun H locs hq hP hL hS => ?_)
          rw [nI_clamp (n := 196 + (3 * (tk a1))) (by omega)] at hP hL
          have hz := hq.trans hz
          obtain ⟨σ3, e3⟩ : ∃ υ0 : gS, υ0 = gup υ (mo + 1) (gI 292 (upd (A1 1) (196 + (3 * (tk a1))) ((nI (w + 3))))) := ⟨_, rfl⟩
          have hP : gH D ka σ3 H := by rw [e3]; exact hP
          have hL : gL lo σ3 := by rw [e3]; exact hL
          have hMo : MoAt σ3 mo (sRow A1 1 (upd (A1 1) (196 + (3 * (tk a1))) ((nI (w + 3))))) := by rw [e3]; exact hMo.w1 (upd (A1 1) (196 + (3 * (tk a1))) ((nI (w + 3))))
          have hag := hag.upe e3 (zo_k (by decide))
          have hEx : ∃ A2 : sS, MoAt σ3 mo A2 ∧ (∀ j : Nat, j ≠ 1 → j ≤ 6 → A2 j = A j) ∧ (∀ x : Nat, x ≠ 196 + 3 * tk a1 → A2 1 x = A 1 x) ∧ Rr (sRow S 3 (upd (S 3) (tk a1) (nI (w + 3)))) (A2 1) ∧ Lv1 (sRow S 3 (upd (S 3) (tk a1) (nI (w + 3)))) A2 (tk a1) 0 := ⟨_, hMo, fun j h1 h2 => (sRow_n h1).trans (hAr j h1 h2), fun x hx => by rw [sRow_s, upd_n hx]; exact hA1 x hx, hR0.setBr hok ha1l (fun x hx => by rw [sRow_s, upd_n hx]; exact hA1 x hx) (by rw [sRow_s, upd_s]), fun b2 hb2 => absurd hb2 (Nat.not_lt_zero b2)⟩
          refine lv_iconst (v := (nI 0)) hx hb dX8_breathFor_44 (by decide) ?_
          refine lv_istore (lv' := [(5, .int (nI 0)), (0, .ref mo), (1, .int a1), (2, .int (S 3 (tk a1))), (3, .int (oI (firstK (gasB S (tk a1)) (37 - w) (w + 4)))), (4, .int (nI (w + 3)))]) hx hb dX8_breathFor_45 hl (by decide) rfl (fun ls hl => ?_)
          have lq : ∀ (fu_lq : Nat) (b : Nat), (b ≤ sB S) → (sB S - b < fu_lq) → ∀ (υ : gS), (∃ A2 : sS, MoAt υ mo A2 ∧ (∀ j : Nat, j ≠ 1 → j ≤ 6 → A2 j = A j) ∧ (∀ x : Nat, x ≠ 196 + 3 * tk a1 → A2 1 x = A 1 x) ∧ Rr (sRow S 3 (upd (S 3) (tk a1) (nI (w + 3)))) (A2 1) ∧ Lv1 (sRow S 3 (upd (S 3) (tk a1) (nI (w + 3)))) A2 (tk a1) b) → (gAs (gZo mo 16) σ υ) → gL lo υ → ∀ (H : Heap) (locs : List Loc) (ls : Array Slot), H.size = sz → gH D ka υ H → va_S (gA lo) s.heap H locs → lv_has ls 6 [(0, .ref mo), (1, .int a1), (2, .int (S 3 (tk a1))), (3, .int (oI (firstK (gasB S (tk a1)) (37 - w) (w + 4)))), (4, .int (nI (w + 3))), (5, .int (nI b))] → W p l e ({ frames := 4, cells := 0, slots := 0, locals := 91 } : Room) s m ([.ref mo, .int a1] : List Value).toArray below meth c H locs (0) (0) (MQ below (gQ D ka lo (gxi (fun r τ n => r = t_breath S a1 ∧ Me τ mo S tf tn P C kp ∧ n = sz ∧ gAs (gZo mo 16) σ τ))) ([.ref mo, .int a1] : List Value).toArray s 0 0 (gA lo)) (F0 m 47 ls []) := by
            intro fu_lq
            induction fu_lq with
            | zero => intro b hb9 hm_lq; exact absurd hm_lq (Nat.not_lt_zero _)
            | succ fu_lq ih_lq =>
              intro b hb9 hm_lq υ hEx hag hL H locs ls hz hP hS hl
              obtain ⟨A4, hMo, hAr, hA1, hR, hLv⟩ := hEx
              have hB9 : sB (sRow S 3 (upd (S 3) (tk a1) (nI (w + 3)))) = sB S := rfl
              have hN9 : sN (sRow S 3 (upd (S 3) (tk a1) (nI (w + 3)))) = sN S := rfl
              have hK9 : sK (sRow S 3 (upd (S 3) (tk a1) (nI (w + 3)))) = sK S := rfl
              refine lv_iload hx hb dX8_breathFor_47 (lv_at hl 5 rfl) ?_
              refine lv_aload_n hx hb dX8_breathFor_49 rfl (lv_at hl 0 rfl) ?_
              refine g_runV (As := []) (rest := [.int (nI b)]) (own := RX8) (C := RX8) (T := TX8) (N := 20) 0 hx hb hml hown hts hK hz hP hL hS hlo hl.1 (c_X8_beats l mo A4 (sRow S 3 (upd (S 3) (tk a1) (nI (w + 3))))  υ sz hMo hR) gX8_breathFor_X8_beats rfl rfl rfl (by decide +kernel) ⟨Nat.le_of_ble_eq_true rfl, Nat.le_of_ble_eq_true rfl⟩ hMo.c0 rfl rfl rfl (Nat.le_of_ble_eq_true rfl) dX8_breathFor_50 ⟨Nat.le_of_ble_eq_true rfl, Nat.le_of_ble_eq_true rfl⟩ (g_ki0 (fun H locs hz hP hL hS => ?_))
              refine g_icmp_ge (tgt := 69) (a := b) (b := sB (sRow S 3 (upd (S 3) (tk a1) (nI (w + 3))))) hx hb (by omega) (by omega) dX8_breathFor_53 (by decide) (fun c53 => ?_) (fun c53 => ?_)
              · refine lv_aload_n hx hb dX8_breathFor_69 rfl (lv_at hl 0 rfl) ?_
                refine lv_iload_n hx hb dX8_breathFor_70 rfl (lv_at hl 1 rfl) ?_
                refine g_top (y := (nI (tk a1))) ha1e ?_
                refine lv_iconst (v := (nI 2)) hx hb dX8_breathFor_71 (by decide) ?_
                refine g_runV (As := [.int (nI (tk a1)), .int (nI 2)]) (rest := []) (own := RX8) (C := RX8) (T := TX8) (N := 20) 2 hx hb hml hown hts hK hz hP hL hS hlo hl.1 (c_X8_beatsOf l mo A4 (sRow S 3 (upd (S 3) (tk a1) (nI (w + 3)))) (tk a1) 2 υ sz hMo hR (by omega) (by omega) (by omega)) gX8_breathFor_X8_beatsOf rfl rfl rfl (by decide +kernel) ⟨Nat.le_of_ble_eq_true rfl, Nat.le_of_ble_eq_true rfl⟩ hMo.c0 rfl rfl rfl (Nat.le_of_ble_eq_true rfl) dX8_breathFor_72 ⟨Nat.le_of_ble_eq_true rfl, Nat.le_of_ble_eq_true rfl⟩ (g_ki0 (fun H locs hz hP hL hS => ?_))
                refine g_top (y := (nI (cntF (fun j => decide (nI (dosF S (tk a1) (nI (w + 3)) j) = nI 2)) (sB S)))) (congrArg nI (br_cnt (S := S) (i := tk a1) (w := w + 3) (A := A4) (by rw [show sB S = b by omega]; exact hLv))) ?_
                have hcl := cntF_le (fun j => decide (nI (dosF S (tk a1) (nI (w + 3)) j) = nI 2)) (sB S)
                refine g_if_ne (tgt := 83) hx hb (by omega) dX8_breathFor_75 (by decide) (fun c75 => ?_) (fun c75 => ?_)
                · refine lv_iload_n hx hb dX8_breathFor_83 rfl (lv_at hl 3 rfl) ?_
                  refine lv_istore_n (lv' := [(3, .int (oI (firstK (gasB S (tk a1)) (37 - w) (w + 4)))), (0, .ref mo), (1, .int a1), (2, .int (S 3 (tk a1))), (4, .int (nI (w + 3))), (5, .int (nI b))]) hx hb dX8_breathFor_84 rfl hl (by decide) rfl (fun ls hl => ?_)
                  refine lv_iinc (v := (nI (w + 3 - 1))) (lv' := [(4, .int (nI (w + 3 - 1))), (3, .int (oI (firstK (gasB S (tk a1)) (37 - w) (w + 4)))), (0, .ref mo), (1, .int a1), (2, .int (S 3 (tk a1))), (5, .int (nI b))]) hx hb dX8_breathFor_85 hl (k := 4) rfl (g_dec (by omega)) (by decide) rfl (fun ls hl => ?_)
                  refine lv_goto (tgt := 24) hx hb dX8_breathFor_88 (by decide) ?_
                  have e_3 : (oI (firstK (gasB S (tk a1)) (37 - w) (w + 4))) = (oI (firstK (gasB S (tk a1)) (37 - (w - 1)) ((w - 1) + 4))) := ((congrArg oI (br_n (S := S) (i := tk a1) (w := w) (by omega) (by omega) (by omega))).symm)
                  have e_4 : (nI (w + 3 - 1)) = (nI ((w - 1) + 3)) := (congrArg nI (by omega))
                  have hl := lv_sub hl (l' := [(0, .ref mo), (1, .int a1), (2, .int (S 3 (tk a1))), (3, .int (oI (firstK (gasB S (tk a1)) (37 - w) (w + 4)))), (4, .int (nI (w + 3 - 1)))]) [2, 3, 4, 1, 0] rfl
                  rw [e_3] at hl
                  rw [e_4] at hl
                  exact ih_lp (w - 1) (by omega) (by omega) υ ⟨_, hMo, hAr, hA1⟩ hag hL H locs ls hz hP hS hl
                · refine lv_iload hx hb dX8_breathFor_78 (lv_at hl 4 rfl) ?_
                  refine lv_goto (tgt := 84) hx hb dX8_breathFor_80 (by decide) ?_
                  refine lv_istore_n (lv' := [(3, .int (nI (w + 3))), (0, .ref mo), (1, .int a1), (2, .int (S 3 (tk a1))), (4, .int (nI (w + 3))), (5, .int (nI b))]) hx hb dX8_breathFor_84 rfl hl (by decide) rfl (fun ls hl => ?_)
                  refine lv_iinc (v := (nI (w + 3 - 1))) (lv' := [(4, .int (nI (w + 3 - 1))), (3, .int (nI (w + 3))), (0, .ref mo), (1, .int a1), (2, .int (S 3 (tk a1))), (5, .int (nI b))]) hx hb dX8_breathFor_85 hl (k := 4) rfl (g_dec (by omega)) (by decide) rfl (fun ls hl => ?_)
                  refine lv_goto (tgt := 24) hx hb dX8_breathFor_88 (by decide) ?_
                  have e_3 : (nI (w + 3)) = (oI (firstK (gasB S (tk a1)) (37 - (w - 1)) ((w - 1) + 4))) := ((congrArg oI (br_y (S := S) (i := tk a1) (w := w) (by omega) (by omega) (by omega))).symm)
                  have e_4 : (nI (w + 3 - 1)) = (nI ((w - 1) + 3)) := (congrArg nI (by omega))
                  have hl := lv_sub hl (l' := [(0, .ref mo), (1, .int a1), (2, .int (S 3 (tk a1))), (3, .int (nI (w + 3))), (4, .int (nI (w + 3 - 1)))]) [2, 3, 4, 1, 0] rfl
                  rw [e_3] at hl
                  rw [e_4] at hl
                  exact ih_lp (w - 1) (by omega) (by omega) υ ⟨_, hMo, hAr, hA1⟩ hag hL H locs ls hz hP hS hl
              · refine lv_aload_n hx hb dX8_breathFor_56 rfl (lv_at hl 0 rfl) ?_
                refine lv_iload_n hx hb dX8_breathFor_57 rfl (lv_at hl 1 rfl) ?_
                refine g_top (y := (nI (tk a1))) ha1e ?_
                refine lv_iload hx hb dX8_breathFor_58 (lv_at hl 5 rfl) ?_
                refine g_runV (As := [.int (nI (tk a1)), .int (nI b)]) (rest := []) (own := RX8) (C := RX8) (T := TX8) (N := 20) 2 hx hb hml hown hts hK hz hP hL hS hlo hl.1 (c_X8_live l mo A4 (sRow S 3 (upd (S 3) (tk a1) (nI (w + 3)))) (tk a1) b υ sz hMo hR (by omega) (by omega) (by omega) (by omega) (by omega)) gX8_breathFor_X8_live rfl rfl rfl (by decide +kernel) ⟨Nat.le_of_ble_eq_true rfl, Nat.le_of_ble_eq_true rfl⟩ hMo.c0 rfl rfl rfl (Nat.le_of_ble_eq_true rfl) dX8_breathFor_60 ⟨Nat.le_of_ble_eq_true rfl, Nat.le_of_ble_eq_true rfl⟩ (g_kxv0 (fun τ_5 H locs z1 hz hp hP hL hS => ?_))
                obtain ⟨hz1, hm_5, ha_5⟩ := hp
                have hz := hz.trans hz1
                have hMo := hm_5
                have hag := hag.tr ha_5 (fun q h => h)
                refine lv_iinc (v := (nI (b + 1))) (lv' := [(5, .int (nI (b + 1))), (0, .ref mo), (1, .int a1), (2, .int (S 3 (tk a1))), (3, .int (oI (firstK (gasB S (tk a1)) (37 - w) (w + 4)))), (4, .int (nI (w + 3)))]) hx hb dX8_breathFor_63 hl (k := 5) rfl (g_inc b 1) (by decide) rfl (fun ls hl => ?_)
                refine lv_goto (tgt := 47) hx hb dX8_breathFor_66 (by decide) ?_
                exact ih_lq (b + 1) (by omega) (by omega) τ_5 ⟨_, hMo, (fun j h1 h2 => (sRow_n (by omega)).trans ((sRow_n (by omega)).trans (hAr j h1 h2))), hA1, hR, hLv.step⟩ hag hL H locs ls hz hP hS (lv_sub hl [1, 2, 3, 4, 5, 0] rfl)
          exact lq _ 0 (by omega) (Nat.lt_succ_self _) σ3 hEx hag hL H locs ls hz hP hS (lv_sub hl [1, 2, 3, 4, 5, 0] rfl)
    exact lp _ 37 (by omega) (Nat.lt_succ_self _) σ ⟨_, hMo, fun j h1 h2 => rfl, fun x hx => rfl⟩ hag hL H locs ls hz hP hS (lv_sub hl [3, 4, 2, 1, 0] rfl)
  · have c5 : inN a1 (sN S) = false := by simpa using c5
    refine lv_iconst (v := (-1)) hx hb dX8_breathFor_8 (by decide) ?_
    exact g_iret (z := sz) hx hb hr hlk hz hP hL hS dX8_breathFor_9 (gxi_i ⟨by rw [t_breath, if_neg (nb c5)], ⟨_, hMo, hA⟩, rfl, hag⟩)
