/-! the reference: its row against the state -/
def ofS (S : sS) (i j : Nat) : Int32 := if j = 0 then S 3 i else if j = 1 then S 4 i else bI (presB S i)
def Rr (S : sS) (f : Nat → Int32) : Prop :=
  (f 0 = nI (sB S) ∧ f 1 = nI (sN S) ∧ f 2 = nI (sK S) ∧ f 3 = nI (sR S)) ∧ (∀ b : Nat, b < sB S → f (4 + b) = S 0 b ∧ f (100 + b) = S 1 b) ∧ (∀ i j : Nat, i < sN S → j < 3 → f (196 + 3 * i + j) = ofS S i j) ∧
  (∀ i b : Nat, i < sN S → b < sB S → hasB (f (232 + 3 * i + b / 32)) (b % 32) = markB S i b) ∧ (∀ k j : Nat, k < sK S → j < 3 → f (268 + 3 * k + j) = S (5 + j) k)
section RR
variable {S : sS} {f : Nat → Int32}
theorem Rr.b0 (h : Rr S f) : f 0 = nI (sB S) := h.1.1
theorem Rr.n1 (h : Rr S f) : f 1 = nI (sN S) := h.1.2.1
theorem Rr.k2 (h : Rr S f) : f 2 = nI (sK S) := h.1.2.2.1
theorem Rr.r3 (h : Rr S f) : f 3 = nI (sR S) := h.1.2.2.2
theorem Rr.so (h : Rr S f) {b : Nat} (hb : b < sB S) : f (4 + b) = S 0 b := (h.2.1 b hb).1
theorem Rr.lo (h : Rr S f) {b : Nat} (hb : b < sB S) : f (100 + b) = S 1 b := (h.2.1 b hb).2
theorem Rr.si (h : Rr S f) {i j : Nat} (hi : i < sN S) (hj : j < 3) : f (196 + 3 * i + j) = ofS S i j := h.2.2.1 i j hi hj
theorem Rr.mk (h : Rr S f) {i b : Nat} (hi : i < sN S) (hb : b < sB S) : hasB (f (232 + 3 * i + b / 32)) (b % 32) = markB S i b := h.2.2.2.1 i b hi hb
theorem Rr.ks (h : Rr S f) {k j : Nat} (hk : k < sK S) (hj : j < 3) : f (268 + 3 * k + j) = S (5 + j) k := h.2.2.2.2 k j hk hj
end RR
theorem inB_inN (a : Int32) {n : Nat} (hn : n < 2147483648) : inB a (nI 0) (nI n - nI 1) = inN a n := by
  rcases n with _ | k
  · have e : nI 0 - nI 1 = (-1 : Int32) := by decide
    rw [e]
    by_cases h : (0 : Int32) ≤ a
    · have h2 : ¬ a ≤ -1 := fun q => absurd (Int32.le_trans h q) (by decide)
      have h3 : ¬ a < nI 0 := fun q => absurd (Int32.lt_of_le_of_lt h q) (by decide)
      simp [inB, inN, h2, h3]
    · have h0 : ¬ nI 0 ≤ a := h
      simp [inB, inN, h, h0]
  · rw [pk_sub (by omega : 1 ≤ k + 1), Nat.add_sub_cancel]
    have e : (a ≤ nI k) = (a < nI (k + 1)) := by
      apply propext
      rw [Int32.le_iff_toInt_le, Int32.lt_iff_toInt_lt, nI_toInt (by omega), nI_toInt (by omega)]
      omega
    simp only [inB, inN, e]
    rfl
/-- the marks' bits one by one -/
def laI (S : sS) (A : sS) (i b : Nat) : Int32 := if b = 0 then S 3 i else A 11 (96 * i + b - 1)
theorem and1 (x : Int32) : x &&& nI 1 = 0 ∨ x &&& nI 1 = nI 1 := by
  have h : ∀ y : BitVec 32, y &&& 1#32 = 0#32 ∨ y &&& 1#32 = 1#32 := by
    intro y
    by_cases c : y.getLsbD 0
    · right; ext i hi; simp [BitVec.getElem_one]; rcases i with _ | i
      · simpa using c
      · simp
    · left; ext i hi; simp [BitVec.getElem_one]; rcases i with _ | i
      · simpa using c
      · simp
  rcases h x.toBitVec with e | e
  · left; exact Int32.toBitVec_inj.mp e
  · right; exact Int32.toBitVec_inj.mp e
theorem bit_1 {x : Int32} {s : Nat} (h : (x >>> (nI s &&& 31)) &&& nI 1 = nI 1) : hasB x s = true := by
  rw [hasB, h]; decide
theorem bit_0 {x : Int32} {s : Nat} (h : (x >>> (nI s &&& 31)) &&& nI 1 ≠ nI 1) : hasB x s = false := by
  rcases and1 (x >>> (nI s &&& 31)) with e | e
  · rw [hasB, e]; decide
  · exact absurd e h
set_option maxHeartbeats 4000000 in
set_option maxRecDepth 100000 in
theorem c_X8_in (l : Launch) (a b d : Int32) (σ : gS) (sz : Nat)  : gM l yX8_in wsX8_in ({ frames := 0, cells := 0, slots := 0, locals := 0 } : Room) 0 0 [.int a, .int b, .int d] σ sz (gi (bI (inB a b d)) σ sz) := by
  refine gM_of (cc := cX8_in) (maxL := 3) (ret := (some .boolean)) (by decide) rfl (Nat.le_of_ble_eq_true rfl) ?_
  intro D ka lo hL hlo p e s m below meth c hx hb hr hts hown hml hlk hnm hK H locs ls hz hP hS hl
  have hl : lv_has ls 3 [(0, .int a), (1, .int b), (2, .int d)] := hl
  have hown : s.vm.findClass RX8 = some m.cls := hown
  refine lv_iload_n hx hb dX8_in_0 rfl (lv_at hl 0 rfl) ?_
  refine lv_iload_n hx hb dX8_in_1 rfl (lv_at hl 1 rfl) ?_
  refine lv_icmp_lt (tgt := 14) hx hb dX8_in_2 (by decide) (fun c2 => ?_) (fun c2 => ?_)
  · refine lv_iconst (v := (nI 0)) hx hb dX8_in_14 (by decide) ?_
    exact g_zret (z := sz) hx hb hr hlk hz hP hL hS rfl dX8_in_15 (gi_i (by simp [inB, bI, nI_0, show nI 1 = (1 : Int32) from rfl, Int32.not_le.mpr c2]) rfl)
  · refine lv_iload_n hx hb dX8_in_5 rfl (lv_at hl 0 rfl) ?_
    refine lv_iload_n hx hb dX8_in_6 rfl (lv_at hl 2 rfl) ?_
    refine lv_icmp_gt (tgt := 14) hx hb dX8_in_7 (by decide) (fun c7 => ?_) (fun c7 => ?_)
    · refine lv_iconst (v := (nI 0)) hx hb dX8_in_14 (by decide) ?_
      exact g_zret (z := sz) hx hb hr hlk hz hP hL hS rfl dX8_in_15 (gi_i (by simp [inB, bI, nI_0, show nI 1 = (1 : Int32) from rfl, Int32.not_lt.mp c2, Int32.not_le.mpr c7]) rfl)
    · refine lv_iconst (v := (nI 1)) hx hb dX8_in_10 (by decide) ?_
      refine lv_goto (tgt := 15) hx hb dX8_in_11 (by decide) ?_
      exact g_zret (z := sz) hx hb hr hlk hz hP hL hS rfl dX8_in_15 (gi_i (by simp [inB, bI, nI_0, show nI 1 = (1 : Int32) from rfl, Int32.not_lt.mp c2, Int32.not_lt.mp c7]) rfl)

set_option maxHeartbeats 4000000 in
set_option maxRecDepth 100000 in
theorem c_X8_lesser (l : Launch) (a b : Int32) (σ : gS) (sz : Nat)  : gM l yX8_lesser wsX8_lesser ({ frames := 0, cells := 0, slots := 0, locals := 0 } : Room) 0 0 [.int a, .int b] σ sz (gi (if a < b then a else b) σ sz) := by
  refine gM_of (cc := cX8_lesser) (maxL := 2) (ret := (some .int)) (by decide) rfl (Nat.le_of_ble_eq_true rfl) ?_
  intro D ka lo hL hlo p e s m below meth c hx hb hr hts hown hml hlk hnm hK H locs ls hz hP hS hl
  have hl : lv_has ls 2 [(0, .int a), (1, .int b)] := hl
  have hown : s.vm.findClass RX8 = some m.cls := hown
  refine lv_iload_n hx hb dX8_lesser_0 rfl (lv_at hl 0 rfl) ?_
  refine lv_iload_n hx hb dX8_lesser_1 rfl (lv_at hl 1 rfl) ?_
  refine lv_icmp_ge (tgt := 9) hx hb dX8_lesser_2 (by decide) (fun c2 => ?_) (fun c2 => ?_)
  · refine lv_iload_n hx hb dX8_lesser_9 rfl (lv_at hl 1 rfl) ?_
    exact g_iret (z := sz) hx hb hr hlk hz hP hL hS dX8_lesser_10 (gi_i (by rw [if_neg (Int32.not_lt.mpr c2)]) rfl)
  · refine lv_iload_n hx hb dX8_lesser_5 rfl (lv_at hl 0 rfl) ?_
    refine lv_goto (tgt := 10) hx hb dX8_lesser_6 (by decide) ?_
    exact g_iret (z := sz) hx hb hr hlk hz hP hL hS dX8_lesser_10 (gi_i (by rw [if_pos (by first | exact c2 | exact Int32.not_le.mp c2)]) rfl)

theorem nX8_beats_X8 : ∀ w ∈ wsX80, w ∈ wsX8_beats := by decide +kernel
set_option maxHeartbeats 4000000 in
set_option maxRecDepth 100000 in
theorem c_X8_beats (l : Launch) (mo : Nat) (A S : sS) (σ : gS) (sz : Nat) (hMo : MoAt σ mo A) (hR : Rr S (A 1)) : gM l yX8_beats wsX8_beats ({ frames := 0, cells := 0, slots := 0, locals := 0 } : Room) 0 0 [.ref mo] σ sz (gi (nI (sB S)) σ sz) := by
  refine gM_of (cc := cX8_beats) (maxL := 1) (ret := (some .int)) (by decide) rfl (Nat.le_of_ble_eq_true rfl) ?_
  intro D ka lo hL hlo p e s m below meth c hx hb hr hts hown hml hlk hnm hK H locs ls hz hP hS hl
  have hl : lv_has ls 1 [(0, .ref mo)] := hl
  have hown : s.vm.findClass RX8 = some m.cls := hown
  refine lv_aload_n hx hb dX8_beats_0 rfl (lv_at hl 0 rfl) ?_
  refine g_get (C := RX8) (T := TX8) (N := 20) hx hb hts hown hK hP hMo.c0 nX8_beats_X8 rfl 0 (by decide) (by decide +kernel) rfl (v := .ref (mo + 1)) rfl dX8_beats_1 ?_
  refine lv_iconst (v := (nI 0)) hx hb dX8_beats_4 (by decide) ?_
  refine g_iald hx hb hK hP hMo.c1 (i := nI 0) (vp_in_nI (by omega) (by omega)) dX8_beats_5 ?_
  rw [nI_clamp (n := 0) (by omega)]
  exact g_iret (z := sz) hx hb hr hlk hz hP hL hS dX8_beats_6 (gi_i hR.b0 rfl)

theorem nX8_singers_X8 : ∀ w ∈ wsX80, w ∈ wsX8_singers := by decide +kernel
set_option maxHeartbeats 4000000 in
set_option maxRecDepth 100000 in
theorem c_X8_singers (l : Launch) (mo : Nat) (A S : sS) (σ : gS) (sz : Nat) (hMo : MoAt σ mo A) (hR : Rr S (A 1)) : gM l yX8_singers wsX8_singers ({ frames := 0, cells := 0, slots := 0, locals := 0 } : Room) 0 0 [.ref mo] σ sz (gi (nI (sN S)) σ sz) := by
  refine gM_of (cc := cX8_singers) (maxL := 1) (ret := (some .int)) (by decide) rfl (Nat.le_of_ble_eq_true rfl) ?_
  intro D ka lo hL hlo p e s m below meth c hx hb hr hts hown hml hlk hnm hK H locs ls hz hP hS hl
  have hl : lv_has ls 1 [(0, .ref mo)] := hl
  have hown : s.vm.findClass RX8 = some m.cls := hown
  refine lv_aload_n hx hb dX8_singers_0 rfl (lv_at hl 0 rfl) ?_
  refine g_get (C := RX8) (T := TX8) (N := 20) hx hb hts hown hK hP hMo.c0 nX8_singers_X8 rfl 0 (by decide) (by decide +kernel) rfl (v := .ref (mo + 1)) rfl dX8_singers_1 ?_
  refine lv_iconst (v := (nI 1)) hx hb dX8_singers_4 (by decide) ?_
  refine g_iald hx hb hK hP hMo.c1 (i := nI 1) (vp_in_nI (by omega) (by omega)) dX8_singers_5 ?_
  rw [nI_clamp (n := 1) (by omega)]
  exact g_iret (z := sz) hx hb hr hlk hz hP hL hS dX8_singers_6 (gi_i hR.n1 rfl)

theorem nX8_solos_X8 : ∀ w ∈ wsX80, w ∈ wsX8_solos := by decide +kernel
set_option maxHeartbeats 4000000 in
set_option maxRecDepth 100000 in
theorem c_X8_solos (l : Launch) (mo : Nat) (A S : sS) (σ : gS) (sz : Nat) (hMo : MoAt σ mo A) (hR : Rr S (A 1)) : gM l yX8_solos wsX8_solos ({ frames := 0, cells := 0, slots := 0, locals := 0 } : Room) 0 0 [.ref mo] σ sz (gi (nI (sK S)) σ sz) := by
  refine gM_of (cc := cX8_solos) (maxL := 1) (ret := (some .int)) (by decide) rfl (Nat.le_of_ble_eq_true rfl) ?_
  intro D ka lo hL hlo p e s m below meth c hx hb hr hts hown hml hlk hnm hK H locs ls hz hP hS hl
  have hl : lv_has ls 1 [(0, .ref mo)] := hl
  have hown : s.vm.findClass RX8 = some m.cls := hown
  refine lv_aload_n hx hb dX8_solos_0 rfl (lv_at hl 0 rfl) ?_
  refine g_get (C := RX8) (T := TX8) (N := 20) hx hb hts hown hK hP hMo.c0 nX8_solos_X8 rfl 0 (by decide) (by decide +kernel) rfl (v := .ref (mo + 1)) rfl dX8_solos_1 ?_
  refine lv_iconst (v := (nI 2)) hx hb dX8_solos_4 (by decide) ?_
  refine g_iald hx hb hK hP hMo.c1 (i := nI 2) (vp_in_nI (by omega) (by omega)) dX8_solos_5 ?_
  rw [nI_clamp (n := 2) (by omega)]
  exact g_iret (z := sz) hx hb hr hlk hz hP hL hS dX8_solos_6 (gi_i hR.k2 rfl)

set_option maxHeartbeats 4000000 in
set_option maxRecDepth 100000 in
theorem c_X8_noBeat (l : Launch) (mo : Nat) (A S : sS) (a : Int32) (σ : gS) (sz : Nat) (hMo : MoAt σ mo A) (hR : Rr S (A 1)) (hn0 : sB S < 2147483648) : gM l yX8_noBeat wsX8_noBeat ({ frames := 1, cells := 0, slots := 0, locals := 22 } : Room) 0 0 [.ref mo, .int a] σ sz (gi (bI (!inN a (sB S))) σ sz) := by
  refine gM_of (cc := cX8_noBeat) (maxL := 2) (ret := (some .boolean)) (by decide) rfl (Nat.le_of_ble_eq_true rfl) ?_
  intro D ka lo hL hlo p e s m below meth c hx hb hr hts hown hml hlk hnm hK H locs ls hz hP hS hl
  have hl : lv_has ls 2 [(0, .ref mo), (1, .int a)] := hl
  have hown : s.vm.findClass RX8 = some m.cls := hown
  refine lv_iload_n hx hb dX8_noBeat_0 rfl (lv_at hl 1 rfl) ?_
  refine lv_iconst (v := (nI 0)) hx hb dX8_noBeat_1 (by decide) ?_
  refine lv_aload_n hx hb dX8_noBeat_2 rfl (lv_at hl 0 rfl) ?_
  refine g_runV (As := []) (rest := [.int (nI 0), .int a]) (own := RX8) (C := RX8) (T := TX8) (N := 20) 0 hx hb hml hown hts hK hz hP hL hS hlo hl.1 (c_X8_beats l mo A S  σ sz hMo hR) gX8_noBeat_X8_beats rfl rfl rfl (by decide +kernel) ⟨Nat.le_of_ble_eq_true rfl, Nat.le_of_ble_eq_true rfl⟩ hMo.c0 rfl rfl rfl (Nat.le_of_ble_eq_true rfl) dX8_noBeat_3 ⟨Nat.le_of_ble_eq_true rfl, Nat.le_of_ble_eq_true rfl⟩ (g_ki0 (fun H locs hz hP hL hS => ?_))
  refine lv_iconst (v := (nI 1)) hx hb dX8_noBeat_6 (by decide) ?_
  refine lv_isub hx hb dX8_noBeat_7 ?_
  refine g_runS (As := [.int a, .int (nI 0), .int ((nI (sB S)) - (nI 1))]) (rest := []) (own := RX8) 3 hx hb hml hown hts hK hz hP hL hS hlo hl.1 (c_X8_in l a ((nI 0)) (((nI (sB S)) - (nI 1))) σ sz) gX8_noBeat_X8_in rfl rfl rfl (by decide +kernel) ⟨Nat.le_of_ble_eq_true rfl, Nat.le_of_ble_eq_true rfl⟩ rfl rfl (Nat.le_of_ble_eq_true rfl) dX8_noBeat_8 ⟨Nat.le_of_ble_eq_true rfl, Nat.le_of_ble_eq_true rfl⟩ (g_ki0 (fun H locs hz hP hL hS => ?_))
  refine g_ifb_ne (tgt := 18) hx hb dX8_noBeat_11 (by decide) (fun c11 => ?_) (fun c11 => ?_)
  · refine lv_iconst (v := (nI 0)) hx hb dX8_noBeat_18 (by decide) ?_
    exact g_zret (z := sz) hx hb hr hlk hz hP hL hS rfl dX8_noBeat_19 (gi_i (by rw [← inB_inN a hn0, c11]; rfl) rfl)
  · refine lv_iconst (v := (nI 1)) hx hb dX8_noBeat_14 (by decide) ?_
    refine lv_goto (tgt := 19) hx hb dX8_noBeat_15 (by decide) ?_
    exact g_zret (z := sz) hx hb hr hlk hz hP hL hS rfl dX8_noBeat_19 (gi_i (by rw [← inB_inN a hn0, c11]; rfl) rfl)

set_option maxHeartbeats 4000000 in
set_option maxRecDepth 100000 in
theorem c_X8_noSinger (l : Launch) (mo : Nat) (A S : sS) (a : Int32) (σ : gS) (sz : Nat) (hMo : MoAt σ mo A) (hR : Rr S (A 1)) (hn0 : sN S < 2147483648) : gM l yX8_noSinger wsX8_noSinger ({ frames := 1, cells := 0, slots := 0, locals := 22 } : Room) 0 0 [.ref mo, .int a] σ sz (gi (bI (!inN a (sN S))) σ sz) := by
  refine gM_of (cc := cX8_noSinger) (maxL := 2) (ret := (some .boolean)) (by decide) rfl (Nat.le_of_ble_eq_true rfl) ?_
  intro D ka lo hL hlo p e s m below meth c hx hb hr hts hown hml hlk hnm hK H locs ls hz hP hS hl
  have hl : lv_has ls 2 [(0, .ref mo), (1, .int a)] := hl
  have hown : s.vm.findClass RX8 = some m.cls := hown
  refine lv_iload_n hx hb dX8_noSinger_0 rfl (lv_at hl 1 rfl) ?_
  refine lv_iconst (v := (nI 0)) hx hb dX8_noSinger_1 (by decide) ?_
  refine lv_aload_n hx hb dX8_noSinger_2 rfl (lv_at hl 0 rfl) ?_
  refine g_runV (As := []) (rest := [.int (nI 0), .int a]) (own := RX8) (C := RX8) (T := TX8) (N := 20) 0 hx hb hml hown hts hK hz hP hL hS hlo hl.1 (c_X8_singers l mo A S  σ sz hMo hR) gX8_noSinger_X8_singers rfl rfl rfl (by decide +kernel) ⟨Nat.le_of_ble_eq_true rfl, Nat.le_of_ble_eq_true rfl⟩ hMo.c0 rfl rfl rfl (Nat.le_of_ble_eq_true rfl) dX8_noSinger_3 ⟨Nat.le_of_ble_eq_true rfl, Nat.le_of_ble_eq_true rfl⟩ (g_ki0 (fun H locs hz hP hL hS => ?_))
  refine lv_iconst (v := (nI 1)) hx hb dX8_noSinger_6 (by decide) ?_
  refine lv_isub hx hb dX8_noSinger_7 ?_
  refine g_runS (As := [.int a, .int (nI 0), .int ((nI (sN S)) - (nI 1))]) (rest := []) (own := RX8) 3 hx hb hml hown hts hK hz hP hL hS hlo hl.1 (c_X8_in l a ((nI 0)) (((nI (sN S)) - (nI 1))) σ sz) gX8_noSinger_X8_in rfl rfl rfl (by decide +kernel) ⟨Nat.le_of_ble_eq_true rfl, Nat.le_of_ble_eq_true rfl⟩ rfl rfl (Nat.le_of_ble_eq_true rfl) dX8_noSinger_8 ⟨Nat.le_of_ble_eq_true rfl, Nat.le_of_ble_eq_true rfl⟩ (g_ki0 (fun H locs hz hP hL hS => ?_))
  refine g_ifb_ne (tgt := 18) hx hb dX8_noSinger_11 (by decide) (fun c11 => ?_) (fun c11 => ?_)
  · refine lv_iconst (v := (nI 0)) hx hb dX8_noSinger_18 (by decide) ?_
    exact g_zret (z := sz) hx hb hr hlk hz hP hL hS rfl dX8_noSinger_19 (gi_i (by rw [← inB_inN a hn0, c11]; rfl) rfl)
  · refine lv_iconst (v := (nI 1)) hx hb dX8_noSinger_14 (by decide) ?_
    refine lv_goto (tgt := 19) hx hb dX8_noSinger_15 (by decide) ?_
    exact g_zret (z := sz) hx hb hr hlk hz hP hL hS rfl dX8_noSinger_19 (gi_i (by rw [← inB_inN a hn0, c11]; rfl) rfl)

theorem nX8_isRest_X8 : ∀ w ∈ wsX80, w ∈ wsX8_isRest := by decide +kernel
set_option maxHeartbeats 4000000 in
set_option maxRecDepth 100000 in
theorem c_X8_isRest (l : Launch) (mo : Nat) (A S : sS) (b : Nat) (σ : gS) (sz : Nat) (hMo : MoAt σ mo A) (hR : Rr S (A 1)) (hb0 : b < sB S) (hB : sB S ≤ 96) : gM l yX8_isRest wsX8_isRest ({ frames := 0, cells := 0, slots := 0, locals := 0 } : Room) 0 0 [.ref mo, .int (nI b)] σ sz (gi (bI (restB S b)) σ sz) := by
  refine gM_of (cc := cX8_isRest) (maxL := 2) (ret := (some .boolean)) (by decide) rfl (Nat.le_of_ble_eq_true rfl) ?_
  intro D ka lo hL hlo p e s m below meth c hx hb hr hts hown hml hlk hnm hK H locs ls hz hP hS hl
  have hl : lv_has ls 2 [(0, .ref mo), (1, .int (nI b))] := hl
  have hown : s.vm.findClass RX8 = some m.cls := hown
  refine lv_aload_n hx hb dX8_isRest_0 rfl (lv_at hl 0 rfl) ?_
  refine g_get (C := RX8) (T := TX8) (N := 20) hx hb hts hown hK hP hMo.c0 nX8_isRest_X8 rfl 0 (by decide) (by decide +kernel) rfl (v := .ref (mo + 1)) rfl dX8_isRest_1 ?_
  refine lv_iconst (v := (nI 4)) hx hb dX8_isRest_4 (by decide) ?_
  refine lv_iload_n hx hb dX8_isRest_5 rfl (lv_at hl 1 rfl) ?_
  refine lv_iadd hx hb dX8_isRest_6 ?_
  refine g_top (nI_add 4 b) ?_
  refine g_iald hx hb hK hP hMo.c1 (i := nI (4 + b)) (vp_in_nI (by omega) (by omega)) dX8_isRest_7 ?_
  rw [nI_clamp (n := 4 + b) (by omega)]
  refine g_top (y := (S 0 b)) (hR.so hb0) ?_
  refine lv_if_ne (tgt := 15) hx hb dX8_isRest_8 (by decide) (fun c8 => ?_) (fun c8 => ?_)
  · refine lv_iconst (v := (nI 0)) hx hb dX8_isRest_15 (by decide) ?_
    exact g_zret (z := sz) hx hb hr hlk hz hP hL hS rfl dX8_isRest_16 (gi_i (by rw [restB, decide_eq_false c8]; rfl) rfl)
  · refine lv_iconst (v := (nI 1)) hx hb dX8_isRest_11 (by decide) ?_
    refine lv_goto (tgt := 16) hx hb dX8_isRest_12 (by decide) ?_
    exact g_zret (z := sz) hx hb hr hlk hz hP hL hS rfl dX8_isRest_16 (gi_i (by rw [restB, decide_eq_true c8]; rfl) rfl)

theorem nX8_loud_X8 : ∀ w ∈ wsX80, w ∈ wsX8_loud := by decide +kernel
set_option maxHeartbeats 4000000 in
set_option maxRecDepth 100000 in
theorem c_X8_loud (l : Launch) (mo : Nat) (A S : sS) (b : Nat) (σ : gS) (sz : Nat) (hMo : MoAt σ mo A) (hR : Rr S (A 1)) (hb0 : b < sB S) (hB : sB S ≤ 96) : gM l yX8_loud wsX8_loud ({ frames := 0, cells := 0, slots := 0, locals := 0 } : Room) 0 0 [.ref mo, .int (nI b)] σ sz (gi (S 1 b) σ sz) := by
  refine gM_of (cc := cX8_loud) (maxL := 2) (ret := (some .int)) (by decide) rfl (Nat.le_of_ble_eq_true rfl) ?_
  intro D ka lo hL hlo p e s m below meth c hx hb hr hts hown hml hlk hnm hK H locs ls hz hP hS hl
  have hl : lv_has ls 2 [(0, .ref mo), (1, .int (nI b))] := hl
  have hown : s.vm.findClass RX8 = some m.cls := hown
  refine lv_aload_n hx hb dX8_loud_0 rfl (lv_at hl 0 rfl) ?_
  refine g_get (C := RX8) (T := TX8) (N := 20) hx hb hts hown hK hP hMo.c0 nX8_loud_X8 rfl 0 (by decide) (by decide +kernel) rfl (v := .ref (mo + 1)) rfl dX8_loud_1 ?_
  refine lv_bipush (v := (nI 100)) hx hb dX8_loud_4 (by decide) ?_
  refine lv_iload_n hx hb dX8_loud_6 rfl (lv_at hl 1 rfl) ?_
  refine lv_iadd hx hb dX8_loud_7 ?_
  refine g_top (nI_add 100 b) ?_
  refine g_iald hx hb hK hP hMo.c1 (i := nI (100 + b)) (vp_in_nI (by omega) (by omega)) dX8_loud_8 ?_
  rw [nI_clamp (n := 100 + b) (by omega)]
  exact g_iret (z := sz) hx hb hr hlk hz hP hL hS dX8_loud_9 (gi_i (hR.lo hb0) rfl)

theorem nX8_of_X8 : ∀ w ∈ wsX80, w ∈ wsX8_of := by decide +kernel
set_option maxHeartbeats 4000000 in
set_option maxRecDepth 100000 in
theorem c_X8_of (l : Launch) (mo : Nat) (A S : sS) (i j : Nat) (σ : gS) (sz : Nat) (hMo : MoAt σ mo A) (hR : Rr S (A 1)) (hi0 : i < sN S) (hj0 : j < 3) (hN : sN S ≤ 12) : gM l yX8_of wsX8_of ({ frames := 0, cells := 0, slots := 0, locals := 0 } : Room) 0 0 [.ref mo, .int (nI i), .int (nI j)] σ sz (gi (ofS S i j) σ sz) := by
  refine gM_of (cc := cX8_of) (maxL := 3) (ret := (some .int)) (by decide) rfl (Nat.le_of_ble_eq_true rfl) ?_
  intro D ka lo hL hlo p e s m below meth c hx hb hr hts hown hml hlk hnm hK H locs ls hz hP hS hl
  have hl : lv_has ls 3 [(0, .ref mo), (1, .int (nI i)), (2, .int (nI j))] := hl
  have hown : s.vm.findClass RX8 = some m.cls := hown
  refine lv_aload_n hx hb dX8_of_0 rfl (lv_at hl 0 rfl) ?_
  refine g_get (C := RX8) (T := TX8) (N := 20) hx hb hts hown hK hP hMo.c0 nX8_of_X8 rfl 0 (by decide) (by decide +kernel) rfl (v := .ref (mo + 1)) rfl dX8_of_1 ?_
  refine lv_sipush (v := (nI 196)) hx hb dX8_of_4 (by decide) ?_
  refine lv_iconst (v := (nI 3)) hx hb dX8_of_7 (by decide) ?_
  refine lv_iload_n hx hb dX8_of_8 rfl (lv_at hl 1 rfl) ?_
  refine lv_imul hx hb dX8_of_9 ?_
  refine g_top (pk_mul 3 i) ?_
  refine lv_iadd hx hb dX8_of_10 ?_
  refine g_top (nI_add 196 (3 * i)) ?_
  refine lv_iload_n hx hb dX8_of_11 rfl (lv_at hl 2 rfl) ?_
  refine lv_iadd hx hb dX8_of_12 ?_
  refine g_top (nI_add (196 + (3 * i)) j) ?_
  refine g_iald hx hb hK hP hMo.c1 (i := nI ((196 + (3 * i)) + j)) (vp_in_nI (by omega) (by omega)) dX8_of_13 ?_
  rw [nI_clamp (n := (196 + (3 * i)) + j) (by omega)]
  exact g_iret (z := sz) hx hb hr hlk hz hP hL hS dX8_of_14 (gi_i (hR.si hi0 hj0) rfl)

theorem nX8_soloOf_X8 : ∀ w ∈ wsX80, w ∈ wsX8_soloOf := by decide +kernel
set_option maxHeartbeats 4000000 in
set_option maxRecDepth 100000 in
theorem c_X8_soloOf (l : Launch) (mo : Nat) (A S : sS) (k j : Nat) (σ : gS) (sz : Nat) (hMo : MoAt σ mo A) (hR : Rr S (A 1)) (hk0 : k < sK S) (hj0 : j < 3) (hKs : sK S ≤ 8) : gM l yX8_soloOf wsX8_soloOf ({ frames := 0, cells := 0, slots := 0, locals := 0 } : Room) 0 0 [.ref mo, .int (nI k), .int (nI j)] σ sz (gi (S (5 + j) k) σ sz) := by
  refine gM_of (cc := cX8_soloOf) (maxL := 3) (ret := (some .int)) (by decide) rfl (Nat.le_of_ble_eq_true rfl) ?_
  intro D ka lo hL hlo p e s m below meth c hx hb hr hts hown hml hlk hnm hK H locs ls hz hP hS hl
  have hl : lv_has ls 3 [(0, .ref mo), (1, .int (nI k)), (2, .int (nI j))] := hl
  have hown : s.vm.findClass RX8 = some m.cls := hown
  refine lv_aload_n hx hb dX8_soloOf_0 rfl (lv_at hl 0 rfl) ?_
  refine g_get (C := RX8) (T := TX8) (N := 20) hx hb hts hown hK hP hMo.c0 nX8_soloOf_X8 rfl 0 (by decide) (by decide +kernel) rfl (v := .ref (mo + 1)) rfl dX8_soloOf_1 ?_
  refine lv_sipush (v := (nI 268)) hx hb dX8_soloOf_4 (by decide) ?_
  refine lv_iconst (v := (nI 3)) hx hb dX8_soloOf_7 (by decide) ?_
  refine lv_iload_n hx hb dX8_soloOf_8 rfl (lv_at hl 1 rfl) ?_
  refine lv_imul hx hb dX8_soloOf_9 ?_
  refine g_top (pk_mul 3 k) ?_
  refine lv_iadd hx hb dX8_soloOf_10 ?_
  refine g_top (nI_add 268 (3 * k)) ?_
  refine lv_iload_n hx hb dX8_soloOf_11 rfl (lv_at hl 2 rfl) ?_
  refine lv_iadd hx hb dX8_soloOf_12 ?_
  refine g_top (nI_add (268 + (3 * k)) j) ?_
  refine g_iald hx hb hK hP hMo.c1 (i := nI ((268 + (3 * k)) + j)) (vp_in_nI (by omega) (by omega)) dX8_soloOf_13 ?_
  rw [nI_clamp (n := (268 + (3 * k)) + j) (by omega)]
  exact g_iret (z := sz) hx hb hr hlk hz hP hL hS dX8_soloOf_14 (gi_i (hR.ks hk0 hj0) rfl)

theorem nX8_isMarked_X8 : ∀ w ∈ wsX80, w ∈ wsX8_isMarked := by decide +kernel
set_option maxHeartbeats 4000000 in
set_option maxRecDepth 100000 in
theorem c_X8_isMarked (l : Launch) (mo : Nat) (A S : sS) (i b : Nat) (σ : gS) (sz : Nat) (hMo : MoAt σ mo A) (hR : Rr S (A 1)) (hi0 : i < sN S) (hb0 : b < sB S) (hN : sN S ≤ 12) (hB : sB S ≤ 96) : gM l yX8_isMarked wsX8_isMarked ({ frames := 0, cells := 0, slots := 0, locals := 0 } : Room) 0 0 [.ref mo, .int (nI i), .int (nI b)] σ sz (gi (bI (markB S i b)) σ sz) := by
  refine gM_of (cc := cX8_isMarked) (maxL := 3) (ret := (some .boolean)) (by decide) rfl (Nat.le_of_ble_eq_true rfl) ?_
  intro D ka lo hL hlo p e s m below meth c hx hb hr hts hown hml hlk hnm hK H locs ls hz hP hS hl
  have hl : lv_has ls 3 [(0, .ref mo), (1, .int (nI i)), (2, .int (nI b))] := hl
  have hown : s.vm.findClass RX8 = some m.cls := hown
  have hd1 : b / 32 < 3 := by omega
  have hd2 : b % 32 < 32 := Nat.mod_lt _ (by decide)
  refine lv_aload_n hx hb dX8_isMarked_0 rfl (lv_at hl 0 rfl) ?_
  refine g_get (C := RX8) (T := TX8) (N := 20) hx hb hts hown hK hP hMo.c0 nX8_isMarked_X8 rfl 0 (by decide) (by decide +kernel) rfl (v := .ref (mo + 1)) rfl dX8_isMarked_1 ?_
  refine lv_sipush (v := (nI 232)) hx hb dX8_isMarked_4 (by decide) ?_
  refine lv_iconst (v := (nI 3)) hx hb dX8_isMarked_7 (by decide) ?_
  refine lv_iload_n hx hb dX8_isMarked_8 rfl (lv_at hl 1 rfl) ?_
  refine lv_imul hx hb dX8_isMarked_9 ?_
  refine g_top (pk_mul 3 i) ?_
  refine lv_iadd hx hb dX8_isMarked_10 ?_
  refine g_top (nI_add 232 (3 * i)) ?_
  refine lv_iload_n hx hb dX8_isMarked_11 rfl (lv_at hl 2 rfl) ?_
  refine lv_bipush (v := (nI 32)) hx hb dX8_isMarked_12 (by decide) ?_
  refine lv_idiv hx hb dX8_isMarked_14 (by decide) ?_
  refine g_top (pk_div (a := b) (d := 32) (by omega) (by omega) (by omega)) ?_
  refine lv_iadd hx hb dX8_isMarked_15 ?_
  refine g_top (nI_add (232 + (3 * i)) (b / 32)) ?_
  refine g_iald hx hb hK hP hMo.c1 (i := nI ((232 + (3 * i)) + (b / 32))) (vp_in_nI (by omega) (by omega)) dX8_isMarked_16 ?_
  rw [nI_clamp (n := (232 + (3 * i)) + (b / 32)) (by omega)]
  refine lv_iload_n hx hb dX8_isMarked_17 rfl (lv_at hl 2 rfl) ?_
  refine lv_bipush (v := (nI 32)) hx hb dX8_isMarked_18 (by decide) ?_
  refine lv_irem hx hb dX8_isMarked_20 (by decide) ?_
  refine g_top (pk_rem (a := b) (d := 32) (by omega) (by omega) (by omega)) ?_
  refine lv_ishr hx hb dX8_isMarked_21 ?_
  refine lv_iconst (v := (nI 1)) hx hb dX8_isMarked_22 (by decide) ?_
  refine lv_iand hx hb dX8_isMarked_23 ?_
  refine lv_iconst (v := (nI 1)) hx hb dX8_isMarked_24 (by decide) ?_
  refine lv_icmp_ne (tgt := 32) hx hb dX8_isMarked_25 (by decide) (fun c25 => ?_) (fun c25 => ?_)
  · refine lv_iconst (v := (nI 0)) hx hb dX8_isMarked_32 (by decide) ?_
    exact g_zret (z := sz) hx hb hr hlk hz hP hL hS rfl dX8_isMarked_33 (gi_i (by rw [← hR.mk hi0 hb0, bit_0 c25]; rfl) rfl)
  · refine lv_iconst (v := (nI 1)) hx hb dX8_isMarked_28 (by decide) ?_
    refine lv_goto (tgt := 33) hx hb dX8_isMarked_29 (by decide) ?_
    exact g_zret (z := sz) hx hb hr hlk hz hP hL hS rfl dX8_isMarked_33 (gi_i (by rw [← hR.mk hi0 hb0, bit_1 c25]; rfl) rfl)
