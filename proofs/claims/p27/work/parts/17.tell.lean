/-! what is told -/
theorem nI_int {k : Nat} (h : k < 2147483648) : (nI k).toInt = (k : Int) := nI_toInt (by omega)
theorem ts_out {a : Int32} {lo hi : Nat} (hl : lo < 2147483648) (hh : hi < 2147483648) (h : ¬ inB a (nI lo) (nI hi) = true) : a.toInt < (lo : Int) ∨ (hi : Int) < a.toInt := by
  by_cases h1 : nI lo ≤ a
  · by_cases h2 : a ≤ nI hi
    · exact absurd (by simp [inB, h1, h2]) h
    · exact Or.inr (by have := Int32.lt_iff_toInt_lt.mp (Int32.not_le.mp h2); rw [nI_int hh] at this; exact this)
  · exact Or.inl (by have := Int32.lt_iff_toInt_lt.mp (Int32.not_le.mp h1); rw [nI_int hl] at this; exact this)
theorem cntF_c {p q : Nat → Bool} {n : Nat} (h : ∀ j, j < n → p j = q j) : cntF p n = cntF q n := by
  induction n with
  | zero => rfl
  | succ n ih => rw [cntF, cntF, ih (fun j hj => h j (by omega)), h n (by omega)]
theorem lsF_c {w : Int32} {f g : Nat → Int32} {n : Nat} (h : ∀ j, j < n → f j = g j) : lsF w f n = lsF w g n := by
  induction n with
  | zero => rfl
  | succ n ih => rw [lsF, lsF, ih (fun j hj => h j (by omega)), h n (by omega)]
theorem rnF_c {f g : Nat → Int32} {n : Nat} (h : ∀ j, j < n → f j = g j) : rnF f n = rnF g n := by
  induction n with
  | zero => rfl
  | succ n ih => rw [rnF, rnF, ih (fun j hj => h j (by omega)), h n (by omega)]
theorem lgF_c {f g : Nat → Int32} {n : Nat} (h : ∀ j, j < n → f j = g j) : lgF f n = lgF g n := by
  induction n with
  | zero => rfl
  | succ n ih => rw [lgF, lgF, ih (fun j hj => h j (by omega)), rnF_c h]
theorem cpyF_lt {f g : Nat → Int32} {n j : Nat} (h : j < n) : cpyF f g n j = g j := if_pos h
def pfI (S : sS) (c1 c2 c3 : Nat → Int32) (b : Nat) (a : Int32) : Int32 := if a = nI 3 then bcI (c1 b) else if a = nI 5 then bcI (c2 b) else if a = nI 6 then bcI (c3 b) else if a = nI 7 then bcI (c1 b) * S 1 b else -2
def pbI (d f : Nat → Int32) (n : Nat) (w : Int32) (a : Int32) : Int32 := if a = nI 4 then nI (cntF (fun j => decide (d j = nI 0)) n) else if a = nI 5 then nI (cntF (fun j => decide (d j = nI 2)) n) else if a = nI 6 then lsF w f n else if a = nI 7 then nI (lgF d n) else -2
theorem pbI_c (d f g h : Nat → Int32) (n : Nat) (w a : Int32) : pbI (cpyF d g n) (cpyF f h n) n w a = pbI g h n w a := by
  simp only [pbI]
  rw [cntF_c (p := fun j => decide (cpyF d g n j = nI 0)) (q := fun j => decide (g j = nI 0)) (fun j hj => by rw [cpyF_lt hj]), cntF_c (p := fun j => decide (cpyF d g n j = nI 2)) (q := fun j => decide (g j = nI 2)) (fun j hj => by rw [cpyF_lt hj]), lsF_c (fun j hj => cpyF_lt hj), lgF_c (fun j hj => cpyF_lt hj)]
def t_beat (S : sS) (a1 a2 : Int32) : Int32 := if inN a1 (sB S) = true then (if a2 = nI 0 then S 0 (tk a1) else if a2 = nI 1 then S 1 (tk a1) else if a2 = nI 2 then firstI S (tk a1) else if a2 = nI 4 then oI (soloF S (tk a1)) else pfI S (chR S 0) (chR S 1) (chR S 2) (tk a1) a2) else -1
def doS (S : sS) (i : Nat) : Nat → Int32 := fun j => nI (dosF S i (S 3 i) j)
def leS (S : sS) (i : Nat) : Nat → Int32 := fun j => leftF S i (S 3 i) (j + 1)
def t_singer (S : sS) (a1 a2 : Int32) : Int32 := if inN a1 (sN S) = true then (if a2 = nI 0 then S 3 (tk a1) else if a2 = nI 1 then S 4 (tk a1) else if a2 = nI 2 then bI (presB S (tk a1)) else if a2 = nI 3 then nI (cntF (fun b => markB S (tk a1) b) (sB S)) else pbI (doS S (tk a1)) (leS S (tk a1)) (sB S) (S 3 (tk a1)) a2) else -1
def t_does (S : sS) (a1 a2 : Int32) : Int32 := if inN a1 (sN S) = true then (if inN a2 (sB S) = true then doS S (tk a1) (tk a2) else -1) else -1
def t_left (S : sS) (a1 a2 : Int32) : Int32 := if inN a1 (sN S) = true then (if inN a2 (sB S) = true then leS S (tk a1) (tk a2) else -1) else -1
def t_solo (S : sS) (a1 a2 : Int32) : Int32 := if inN a1 (sK S) = true then (if a2 = nI 0 then S 5 (tk a1) else if a2 = nI 1 then S 6 (tk a1) else if a2 = nI 2 then S 7 (tk a1) else -2) else -1
abbrev flS (S : sS) : Nat → Nat → Int32 := fltI S (chR S 0) (chR S 1) (chR S 2)
def t_fault (S : sS) (cn : Nat → Nat → Nat) (a1 a2 : Int32) : Int32 := if a1 < 0 then -2 else if inB a2 (nI 0) (nI 2) = true then telI S (chR S 0) (chR S 1) (chR S 2) cn (tk a1) (tk a2) else -2
def t_silent (S : sS) (a1 : Int32) : Int32 := if inN a1 (sN S) = true then nI (cntF (silB S (chR S 0) (tk a1)) (sB S)) else -1
def gasB (S : sS) (i k : Nat) : Bool := decide (cntF (fun j => decide (nI (dosF S i (nI k) j) = nI 2)) (sB S) = 0)
def t_breath (S : sS) (a1 : Int32) : Int32 := if inN a1 (sN S) = true then oI (firstK (gasB S (tk a1)) 37 4) else -1
def t_count (S : sS) (tn P : Nat) (a1 : Int32) : Int32 :=
  if a1 = nI 0 then nI (sB S) else if a1 = nI 1 then nI (cntF (fun b => restB S b) (sB S)) else if a1 = nI 2 then nI (cntF (fun b => decide (firstI S b = nI b)) (sB S)) else if a1 = nI 3 then nI (sN S) else if a1 = nI 4 then bcI (S 8 2) else if a1 = nI 5 then nI (sK S) else if a1 = nI 6 then smI (fun b => bcI (S 2 b)) (sB S) else
  if a1 = nI 7 then csuI (flS S) 0 4 (sB S) else if a1 = nI 8 then csuI (flS S) 0 1 (sB S) else if a1 = nI 9 then csuI (flS S) 1 1 (sB S) else if a1 = nI 10 then csuI (flS S) 2 1 (sB S) else if a1 = nI 11 then csuI (flS S) 3 1 (sB S) else if a1 = nI 12 then nI (sR S) else if a1 = nI 13 then nI (lonF S (sB S)) else if a1 = nI 14 then nI P else if a1 = nI 15 then nI tn else -2
theorem nX7_performed_X0 : ∀ w ∈ wsX00, w ∈ wsX7_performed := by decide +kernel
theorem nX7_performed_X4 : ∀ w ∈ wsX40, w ∈ wsX7_performed := by decide +kernel
theorem nX7_performed_X7 : ∀ w ∈ wsX70, w ∈ wsX7_performed := by decide +kernel
set_option maxHeartbeats 4000000 in
set_option maxRecDepth 100000 in
theorem c_X7_performed (l : Launch) (o x t pa sn v ch tu : Nat) (S : sS) (ca cb cd : Nat → Int32) (b0 : Nat) (a2 : Int32) (σ : gS) (sz : Nat) (ho0 : σ o = gO 7 [.ref x, .ref t, .ref pa, .ref sn, .ref v, .ref ch, .ref tu]) (hSt : StAt σ x S) (hCh : ChAt σ ch ca cb cd) (hb0 : b0 < 96) : gM l yX7_performed wsX7_performed ({ frames := 1, cells := 0, slots := 0, locals := 21 } : Room) 0 0 [.ref o, .int (nI b0), .int a2] σ sz (gi (pfI S ca cb cd b0 a2) σ sz) := by
  refine gM_of (cc := cX7_performed) (maxL := 4) (ret := (some .int)) (by decide) rfl (Nat.le_of_ble_eq_true rfl) ?_
  intro D ka lo hL hlo p e s m below meth c hx hb hr hts hown hml hlk hnm hK H locs ls hz hP hS hl
  have hl : lv_has ls 4 [(0, .ref o), (1, .int (nI b0)), (2, .int a2)] := hl
  have hown : s.vm.findClass RX7 = some m.cls := hown
  refine lv_aload_n hx hb dX7_performed_0 rfl (lv_at hl 0 rfl) ?_
  refine g_get (C := RX7) (T := TX7) (N := 7) hx hb hts hown hK hP ho0 nX7_performed_X7 rfl 5 (by decide) (by decide +kernel) rfl (v := .ref ch) rfl dX7_performed_1 ?_
  refine g_get (C := RX0) (T := TX0) (N := 3) hx hb hts hown hK hP hCh.c0 nX7_performed_X0 rfl 0 (by decide) (by decide +kernel) rfl (v := .ref (ch + 1)) rfl dX7_performed_4 ?_
  refine lv_iload_n hx hb dX7_performed_7 rfl (lv_at hl 1 rfl) ?_
  refine g_runV (As := [.int (nI b0)]) (rest := []) (own := RX7) (C := RX2) (T := TX2) (N := 1) 1 hx hb hml hown hts hK hz hP hL hS hlo hl.1 (c_X2_at l (ch + 1) 96 b0 ca σ sz ⟨hCh.c1, hCh.c2⟩ (by omega) (by omega)) gX7_performed_X2_at rfl rfl rfl (by decide +kernel) ⟨Nat.le_of_ble_eq_true rfl, Nat.le_of_ble_eq_true rfl⟩ hCh.c1 rfl rfl rfl (Nat.le_of_ble_eq_true rfl) dX7_performed_8 ⟨Nat.le_of_ble_eq_true rfl, Nat.le_of_ble_eq_true rfl⟩ (g_ki0 (fun H locs hz hP hL hS => ?_))
  refine g_runS (As := [.int (ca b0)]) (rest := []) (own := RX7) 1 hx hb hml hown hts hK hz hP hL hS hlo hl.1 (c_J6_bitCount_0f7a4 l ((ca b0)) σ sz) gX7_performed_J6_bitCount_0f7a4 rfl rfl rfl (by decide +kernel) ⟨Nat.le_of_ble_eq_true rfl, Nat.le_of_ble_eq_true rfl⟩ rfl rfl (Nat.le_of_ble_eq_true rfl) dX7_performed_11 ⟨Nat.le_of_ble_eq_true rfl, Nat.le_of_ble_eq_true rfl⟩ (g_ki0 (fun H locs hz hP hL hS => ?_))
  refine lv_istore_n (lv' := [(3, .int (bcI ((ca b0)))), (0, .ref o), (1, .int (nI b0)), (2, .int a2)]) hx hb dX7_performed_14 rfl hl (by decide) rfl (fun ls hl => ?_)
  refine lv_iload_n hx hb dX7_performed_15 rfl (lv_at hl 3 rfl) ?_
  rcases Decidable.em (inB a2 (nI 3) (nI 7) = true) with hin16 | hout16
  · obtain ⟨k16, hk1, hk2, hke⟩ := inB_of (by decide) (by decide) hin16
    rcases (show k16 = 3 ∨ k16 = 4 ∨ k16 = 5 ∨ k16 = 6 ∨ k16 = 7 by omega) with hk0 | hk0 | hk0 | hk0 | hk0
    · have hsw : a2 = nI 3 := by rw [hke, hk0]
      refine g_top (y := nI 3) hsw ?_
      refine lv_tableIn (tgt := 52) (off := 36) hx hb dX7_performed_16 (by decide) (by decide) (by decide) (by decide) ?_
      refine lv_iload_n hx hb dX7_performed_52 rfl (lv_at hl 0 rfl) ?_
      exact g_iret (z := sz) hx hb hr hlk hz hP hL hS dX7_performed_53 (gi_i (by rw [pfI, if_pos hsw]) rfl)
    · have hsw : a2 = nI 4 := by rw [hke, hk0]
      refine g_top (y := nI 4) hsw ?_
      refine lv_tableIn (tgt := 98) (off := 82) hx hb dX7_performed_16 (by decide) (by decide) (by decide) (by decide) ?_
      refine lv_bipush (v := (-2)) hx hb dX7_performed_98 (by decide) ?_
      exact g_iret (z := sz) hx hb hr hlk hz hP hL hS dX7_performed_100 (gi_i (by rw [pfI, if_neg (by rw [hsw]; decide), if_neg (by rw [hsw]; decide), if_neg (by rw [hsw]; decide), if_neg (by rw [hsw]; decide)]) rfl)
    · have hsw : a2 = nI 5 := by rw [hke, hk0]
      refine g_top (y := nI 5) hsw ?_
      refine lv_tableIn (tgt := 54) (off := 38) hx hb dX7_performed_16 (by decide) (by decide) (by decide) (by decide) ?_
      refine lv_aload_n hx hb dX7_performed_54 rfl (lv_at hl 1 rfl) ?_
      refine g_get (C := RX7) (T := TX7) (N := 7) hx hb hts hown hK hP ho0 nX7_performed_X7 rfl 5 (by decide) (by decide +kernel) rfl (v := .ref ch) rfl dX7_performed_55 ?_
      refine g_get (C := RX0) (T := TX0) (N := 3) hx hb hts hown hK hP hCh.c0 nX7_performed_X0 rfl 1 (by decide) (by decide +kernel) rfl (v := .ref (ch + 3)) rfl dX7_performed_58 ?_
      refine lv_iload_n hx hb dX7_performed_61 rfl (lv_at hl 2 rfl) ?_
      refine g_runV (As := [.int (nI b0)]) (rest := []) (own := RX7) (C := RX2) (T := TX2) (N := 1) 1 hx hb hml hown hts hK hz hP hL hS hlo hl.1 (c_X2_at l (ch + 3) 96 b0 cb σ sz ⟨hCh.c3, hCh.c4⟩ (by omega) (by omega)) gX7_performed_X2_at rfl rfl rfl (by decide +kernel) ⟨Nat.le_of_ble_eq_true rfl, Nat.le_of_ble_eq_true rfl⟩ hCh.c3 rfl rfl rfl (Nat.le_of_ble_eq_true rfl) dX7_performed_62 ⟨Nat.le_of_ble_eq_true rfl, Nat.le_of_ble_eq_true rfl⟩ (g_ki0 (fun H locs hz hP hL hS => ?_))
      refine g_runS (As := [.int (cb b0)]) (rest := []) (own := RX7) 1 hx hb hml hown hts hK hz hP hL hS hlo hl.1 (c_J6_bitCount_0f7a4 l ((cb b0)) σ sz) gX7_performed_J6_bitCount_0f7a4 rfl rfl rfl (by decide +kernel) ⟨Nat.le_of_ble_eq_true rfl, Nat.le_of_ble_eq_true rfl⟩ rfl rfl (Nat.le_of_ble_eq_true rfl) dX7_performed_65 ⟨Nat.le_of_ble_eq_true rfl, Nat.le_of_ble_eq_true rfl⟩ (g_ki0 (fun H locs hz hP hL hS => ?_))
      exact g_iret (z := sz) hx hb hr hlk hz hP hL hS dX7_performed_68 (gi_i (by rw [pfI, if_neg (by rw [hsw]; decide), if_pos hsw]) rfl)
    · have hsw : a2 = nI 6 := by rw [hke, hk0]
      refine g_top (y := nI 6) hsw ?_
      refine lv_tableIn (tgt := 69) (off := 53) hx hb dX7_performed_16 (by decide) (by decide) (by decide) (by decide) ?_
      refine lv_aload_n hx hb dX7_performed_69 rfl (lv_at hl 1 rfl) ?_
      refine g_get (C := RX7) (T := TX7) (N := 7) hx hb hts hown hK hP ho0 nX7_performed_X7 rfl 5 (by decide) (by decide +kernel) rfl (v := .ref ch) rfl dX7_performed_70 ?_
      refine g_get (C := RX0) (T := TX0) (N := 3) hx hb hts hown hK hP hCh.c0 nX7_performed_X0 rfl 2 (by decide) (by decide +kernel) rfl (v := .ref (ch + 5)) rfl dX7_performed_73 ?_
      refine lv_iload_n hx hb dX7_performed_76 rfl (lv_at hl 2 rfl) ?_
      refine g_runV (As := [.int (nI b0)]) (rest := []) (own := RX7) (C := RX2) (T := TX2) (N := 1) 1 hx hb hml hown hts hK hz hP hL hS hlo hl.1 (c_X2_at l (ch + 5) 96 b0 cd σ sz ⟨hCh.c5, hCh.c6⟩ (by omega) (by omega)) gX7_performed_X2_at rfl rfl rfl (by decide +kernel) ⟨Nat.le_of_ble_eq_true rfl, Nat.le_of_ble_eq_true rfl⟩ hCh.c5 rfl rfl rfl (Nat.le_of_ble_eq_true rfl) dX7_performed_77 ⟨Nat.le_of_ble_eq_true rfl, Nat.le_of_ble_eq_true rfl⟩ (g_ki0 (fun H locs hz hP hL hS => ?_))
      refine g_runS (As := [.int (cd b0)]) (rest := []) (own := RX7) 1 hx hb hml hown hts hK hz hP hL hS hlo hl.1 (c_J6_bitCount_0f7a4 l ((cd b0)) σ sz) gX7_performed_J6_bitCount_0f7a4 rfl rfl rfl (by decide +kernel) ⟨Nat.le_of_ble_eq_true rfl, Nat.le_of_ble_eq_true rfl⟩ rfl rfl (Nat.le_of_ble_eq_true rfl) dX7_performed_80 ⟨Nat.le_of_ble_eq_true rfl, Nat.le_of_ble_eq_true rfl⟩ (g_ki0 (fun H locs hz hP hL hS => ?_))
      exact g_iret (z := sz) hx hb hr hlk hz hP hL hS dX7_performed_83 (gi_i (by rw [pfI, if_neg (by rw [hsw]; decide), if_neg (by rw [hsw]; decide), if_pos hsw]) rfl)
    · have hsw : a2 = nI 7 := by rw [hke, hk0]
      refine g_top (y := nI 7) hsw ?_
      refine lv_tableIn (tgt := 84) (off := 68) hx hb dX7_performed_16 (by decide) (by decide) (by decide) (by decide) ?_
      refine lv_iload_n hx hb dX7_performed_84 rfl (lv_at hl 0 rfl) ?_
      refine lv_aload_n hx hb dX7_performed_85 rfl (lv_at hl 1 rfl) ?_
      refine g_get (C := RX7) (T := TX7) (N := 7) hx hb hts hown hK hP ho0 nX7_performed_X7 rfl 0 (by decide) (by decide +kernel) rfl (v := .ref x) rfl dX7_performed_86 ?_
      refine g_get (C := RX4) (T := TX4) (N := 13) hx hb hts hown hK hP hSt.c0 nX7_performed_X4 rfl 6 (by decide) (by decide +kernel) rfl (v := .ref (x + 3)) rfl dX7_performed_89 ?_
      refine lv_iload_n hx hb dX7_performed_92 rfl (lv_at hl 2 rfl) ?_
      refine g_runV (As := [.int (nI b0)]) (rest := [.int (bcI ((ca b0)))]) (own := RX7) (C := RX2) (T := TX2) (N := 1) 1 hx hb hml hown hts hK hz hP hL hS hlo hl.1 (c_X2_at l (x + 3) 96 b0 (S 1) σ sz ⟨hSt.c3, hSt.c4⟩ (by omega) (by omega)) gX7_performed_X2_at rfl rfl rfl (by decide +kernel) ⟨Nat.le_of_ble_eq_true rfl, Nat.le_of_ble_eq_true rfl⟩ hSt.c3 rfl rfl rfl (Nat.le_of_ble_eq_true rfl) dX7_performed_93 ⟨Nat.le_of_ble_eq_true rfl, Nat.le_of_ble_eq_true rfl⟩ (g_ki0 (fun H locs hz hP hL hS => ?_))
      refine lv_imul hx hb dX7_performed_96 ?_
      exact g_iret (z := sz) hx hb hr hlk hz hP hL hS dX7_performed_97 (gi_i (by rw [pfI, if_neg (by rw [hsw]; decide), if_neg (by rw [hsw]; decide), if_neg (by rw [hsw]; decide), if_pos hsw]) rfl)
  · refine lv_tableOut (tgt := 98) hx hb dX7_performed_16 (ts_out (by decide) (by decide) hout16) (by decide) ?_
    refine lv_bipush (v := (-2)) hx hb dX7_performed_98 (by decide) ?_
    exact g_iret (z := sz) hx hb hr hlk hz hP hL hS dX7_performed_100 (gi_i (by rw [pfI, if_neg (fun q => hout16 (by rw [q]; decide)), if_neg (fun q => hout16 (by rw [q]; decide)), if_neg (fun q => hout16 (by rw [q]; decide)), if_neg (fun q => hout16 (by rw [q]; decide))]) rfl)

theorem nX7_performedBy_X7 : ∀ w ∈ wsX70, w ∈ wsX7_performedBy := by decide +kernel
set_option maxHeartbeats 4000000 in
set_option maxRecDepth 100000 in
theorem c_X7_performedBy (l : Launch) (o x t pa sn v ch tu : Nat) (S : sS) (d f : Nat → Int32) (b0 : Nat) (w0 a2 : Int32) (σ : gS) (sz : Nat) (ho0 : σ o = gO 7 [.ref x, .ref t, .ref pa, .ref sn, .ref v, .ref ch, .ref tu]) (hVo : VoAt σ v d f b0 w0) (hb0 : b0 ≤ 96) : gM l yX7_performedBy wsX7_performedBy ({ frames := 2, cells := 0, slots := 0, locals := 44 } : Room) 0 0 [.ref o, .int a2] σ sz (gi (pbI d f b0 w0 a2) σ sz) := by
  refine gM_of (cc := cX7_performedBy) (maxL := 2) (ret := (some .int)) (by decide) rfl (Nat.le_of_ble_eq_true rfl) ?_
  intro D ka lo hL hlo p e s m below meth c hx hb hr hts hown hml hlk hnm hK H locs ls hz hP hS hl
  have hl : lv_has ls 2 [(0, .ref o), (1, .int a2)] := hl
  have hown : s.vm.findClass RX7 = some m.cls := hown
  refine lv_iload_n hx hb dX7_performedBy_0 rfl (lv_at hl 1 rfl) ?_
  rcases Decidable.em (inB a2 (nI 4) (nI 7) = true) with hin1 | hout1
  · obtain ⟨k1, hk1, hk2, hke⟩ := inB_of (by decide) (by decide) hin1
    rcases (show k1 = 4 ∨ k1 = 5 ∨ k1 = 6 ∨ k1 = 7 by omega) with hk0 | hk0 | hk0 | hk0
    · have hsw : a2 = nI 4 := by rw [hke, hk0]
      refine g_top (y := nI 4) hsw ?_
      refine lv_tableIn (tgt := 32) (off := 31) hx hb dX7_performedBy_1 (by decide) (by decide) (by decide) (by decide) ?_
      refine lv_aload_n hx hb dX7_performedBy_32 rfl (lv_at hl 0 rfl) ?_
      refine g_get (C := RX7) (T := TX7) (N := 7) hx hb hts hown hK hP ho0 nX7_performedBy_X7 rfl 4 (by decide) (by decide +kernel) rfl (v := .ref v) rfl dX7_performedBy_33 ?_
      refine lv_iconst (v := (nI 0)) hx hb dX7_performedBy_36 (by decide) ?_
      refine g_runV (As := [.int (nI 0)]) (rest := []) (own := RX7) (C := RX6) (T := TX6) (N := 4) 1 hx hb hml hown hts hK hz hP hL hS hlo hl.1 (c_X6_countDoing l v d f b0 w0 0 σ sz hVo (by omega)) gX7_performedBy_X6_countDoing rfl rfl rfl (by decide +kernel) ⟨Nat.le_of_ble_eq_true rfl, Nat.le_of_ble_eq_true rfl⟩ hVo.c0 rfl rfl rfl (Nat.le_of_ble_eq_true rfl) dX7_performedBy_37 ⟨Nat.le_of_ble_eq_true rfl, Nat.le_of_ble_eq_true rfl⟩ (g_ki0 (fun H locs hz hP hL hS => ?_))
      exact g_iret (z := sz) hx hb hr hlk hz hP hL hS dX7_performedBy_40 (gi_i (by rw [pbI, if_pos hsw]) rfl)
    · have hsw : a2 = nI 5 := by rw [hke, hk0]
      refine g_top (y := nI 5) hsw ?_
      refine lv_tableIn (tgt := 41) (off := 40) hx hb dX7_performedBy_1 (by decide) (by decide) (by decide) (by decide) ?_
      refine lv_aload_n hx hb dX7_performedBy_41 rfl (lv_at hl 0 rfl) ?_
      refine g_get (C := RX7) (T := TX7) (N := 7) hx hb hts hown hK hP ho0 nX7_performedBy_X7 rfl 4 (by decide) (by decide +kernel) rfl (v := .ref v) rfl dX7_performedBy_42 ?_
      refine lv_iconst (v := (nI 2)) hx hb dX7_performedBy_45 (by decide) ?_
      refine g_runV (As := [.int (nI 2)]) (rest := []) (own := RX7) (C := RX6) (T := TX6) (N := 4) 1 hx hb hml hown hts hK hz hP hL hS hlo hl.1 (c_X6_countDoing l v d f b0 w0 2 σ sz hVo (by omega)) gX7_performedBy_X6_countDoing rfl rfl rfl (by decide +kernel) ⟨Nat.le_of_ble_eq_true rfl, Nat.le_of_ble_eq_true rfl⟩ hVo.c0 rfl rfl rfl (Nat.le_of_ble_eq_true rfl) dX7_performedBy_46 ⟨Nat.le_of_ble_eq_true rfl, Nat.le_of_ble_eq_true rfl⟩ (g_ki0 (fun H locs hz hP hL hS => ?_))
      exact g_iret (z := sz) hx hb hr hlk hz hP hL hS dX7_performedBy_49 (gi_i (by rw [pbI, if_neg (by rw [hsw]; decide), if_pos hsw]) rfl)
    · have hsw : a2 = nI 6 := by rw [hke, hk0]
      refine g_top (y := nI 6) hsw ?_
      refine lv_tableIn (tgt := 50) (off := 49) hx hb dX7_performedBy_1 (by decide) (by decide) (by decide) (by decide) ?_
      refine lv_aload_n hx hb dX7_performedBy_50 rfl (lv_at hl 0 rfl) ?_
      refine g_get (C := RX7) (T := TX7) (N := 7) hx hb hts hown hK hP ho0 nX7_performedBy_X7 rfl 4 (by decide) (by decide +kernel) rfl (v := .ref v) rfl dX7_performedBy_51 ?_
      refine g_runV (As := []) (rest := []) (own := RX7) (C := RX6) (T := TX6) (N := 4) 0 hx hb hml hown hts hK hz hP hL hS hlo hl.1 (c_X6_leastLeft l v d f b0 w0  σ sz hVo (by omega)) gX7_performedBy_X6_leastLeft rfl rfl rfl (by decide +kernel) ⟨Nat.le_of_ble_eq_true rfl, Nat.le_of_ble_eq_true rfl⟩ hVo.c0 rfl rfl rfl (Nat.le_of_ble_eq_true rfl) dX7_performedBy_54 ⟨Nat.le_of_ble_eq_true rfl, Nat.le_of_ble_eq_true rfl⟩ (g_ki0 (fun H locs hz hP hL hS => ?_))
      exact g_iret (z := sz) hx hb hr hlk hz hP hL hS dX7_performedBy_57 (gi_i (by rw [pbI, if_neg (by rw [hsw]; decide), if_neg (by rw [hsw]; decide), if_pos hsw]) rfl)
    · have hsw : a2 = nI 7 := by rw [hke, hk0]
      refine g_top (y := nI 7) hsw ?_
      refine lv_tableIn (tgt := 58) (off := 57) hx hb dX7_performedBy_1 (by decide) (by decide) (by decide) (by decide) ?_
      refine lv_aload_n hx hb dX7_performedBy_58 rfl (lv_at hl 0 rfl) ?_
      refine g_get (C := RX7) (T := TX7) (N := 7) hx hb hts hown hK hP ho0 nX7_performedBy_X7 rfl 4 (by decide) (by decide +kernel) rfl (v := .ref v) rfl dX7_performedBy_59 ?_
      refine g_runV (As := []) (rest := []) (own := RX7) (C := RX6) (T := TX6) (N := 4) 0 hx hb hml hown hts hK hz hP hL hS hlo hl.1 (c_X6_longestSung l v d f b0 w0  σ sz hVo (by omega)) gX7_performedBy_X6_longestSung rfl rfl rfl (by decide +kernel) ⟨Nat.le_of_ble_eq_true rfl, Nat.le_of_ble_eq_true rfl⟩ hVo.c0 rfl rfl rfl (Nat.le_of_ble_eq_true rfl) dX7_performedBy_62 ⟨Nat.le_of_ble_eq_true rfl, Nat.le_of_ble_eq_true rfl⟩ (g_ki0 (fun H locs hz hP hL hS => ?_))
      exact g_iret (z := sz) hx hb hr hlk hz hP hL hS dX7_performedBy_65 (gi_i (by rw [pbI, if_neg (by rw [hsw]; decide), if_neg (by rw [hsw]; decide), if_neg (by rw [hsw]; decide), if_pos hsw]) rfl)
  · refine lv_tableOut (tgt := 66) hx hb dX7_performedBy_1 (ts_out (by decide) (by decide) hout1) (by decide) ?_
    refine lv_bipush (v := (-2)) hx hb dX7_performedBy_66 (by decide) ?_
    exact g_iret (z := sz) hx hb hr hlk hz hP hL hS dX7_performedBy_68 (gi_i (by rw [pbI, if_neg (fun q => hout1 (by rw [q]; decide)), if_neg (fun q => hout1 (by rw [q]; decide)), if_neg (fun q => hout1 (by rw [q]; decide)), if_neg (fun q => hout1 (by rw [q]; decide))]) rfl)

theorem nX7_beat_X4 : ∀ w ∈ wsX40, w ∈ wsX7_beat := by decide +kernel
theorem nX7_beat_X7 : ∀ w ∈ wsX70, w ∈ wsX7_beat := by decide +kernel
set_option maxHeartbeats 4000000 in
set_option maxRecDepth 100000 in
theorem c_X7_beat (l : Launch) (o b : Nat) (S : sS) (tf : Nat → Int32) (tn P : Nat) (C : Nat → sS) (kp : Nat → Bool) (zp : Nat) (a1 a2 : Int32) (σ : gS) (sz : Nat) (hW : Wo σ o b S tf tn P C kp zp) (hok : okS S) : gM l yX7_beat wsX7_beat ({ frames := 6, cells := 0, slots := 0, locals := 140 } : Room) 0 0 [.ref o, .int a1, .int a2] σ sz (gxi (fun r τ n => r = t_beat S a1 a2 ∧ Wo τ o b S tf tn P C kp zp ∧ n = sz ∧ gAs (gZo o 39) σ τ)) := by
  refine gM_of (cc := cX7_beat) (maxL := 3) (ret := (some .int)) (by decide) rfl (Nat.le_of_ble_eq_true rfl) ?_
  intro D ka lo hL hlo p e s m below meth c hx hb hr hts hown hml hlk hnm hK H locs ls hz hP hS hl
  have hl : lv_has ls 3 [(0, .ref o), (1, .int a1), (2, .int a2)] := hl
  have hown : s.vm.findClass RX7 = some m.cls := hown
  obtain ⟨x, t, pa, sn, v, ch, tu, g, sg, ⟨hx0, ht0, hpa0, hsn0, hv0, hch0, htu0, hob⟩, ho0, hSt, ⟨ta, tso, tld, tti, hTx⟩, hPa, hsn, ⟨vd, vf, vb, vw, hVo⟩, ⟨ca, cb, cd, hCh⟩, ⟨lf, hTu⟩, hPl, hg, hkp, htn, hP5⟩ := hW
  obtain ⟨hB, hN, hKs, hRs⟩ := hok
  have hbz := hPl.1
  have hag : gAs (gZo o 39) σ σ := gAs.rf
  refine lv_aload_n hx hb dX7_beat_0 rfl (lv_at hl 0 rfl) ?_
  refine g_get (C := RX7) (T := TX7) (N := 7) hx hb hts hown hK hP ho0 nX7_beat_X7 rfl 0 (by decide) (by decide +kernel) rfl (v := .ref x) rfl dX7_beat_1 ?_
  refine lv_iload_n hx hb dX7_beat_4 rfl (lv_at hl 1 rfl) ?_
  refine g_runV (As := [.int a1]) (rest := []) (own := RX7) (C := RX4) (T := TX4) (N := 13) 1 hx hb hml hown hts hK hz hP hL hS hlo hl.1 (c_X4_hasBeat l x S a1 σ sz hSt) gX7_beat_X4_hasBeat rfl rfl rfl (by decide +kernel) ⟨Nat.le_of_ble_eq_true rfl, Nat.le_of_ble_eq_true rfl⟩ hSt.c0 rfl rfl rfl (Nat.le_of_ble_eq_true rfl) dX7_beat_5 ⟨Nat.le_of_ble_eq_true rfl, Nat.le_of_ble_eq_true rfl⟩ (g_ki0 (fun H locs hz hP hL hS => ?_))
  refine g_ifb_ne (tgt := 13) hx hb dX7_beat_8 (by decide) (fun c8 => ?_) (fun c8 => ?_)
  · obtain ⟨ha1e, ha1l⟩ := tk_in c8 (by omega)
    refine lv_iload_n hx hb dX7_beat_13 rfl (lv_at hl 2 rfl) ?_
    rcases Decidable.em (inB a2 (nI 0) (nI 4) = true) with hin14 | hout14
    · obtain ⟨k14, hk1, hk2, hke⟩ := inB_of (by decide) (by decide) hin14
      rcases (show k14 = 0 ∨ k14 = 1 ∨ k14 = 2 ∨ k14 = 3 ∨ k14 = 4 by omega) with hk0 | hk0 | hk0 | hk0 | hk0
      · have hsw : a2 = nI 0 := by rw [hke, hk0]
        refine g_top (y := nI 0) hsw ?_
        refine lv_tableIn (tgt := 48) (off := 34) hx hb dX7_beat_14 (by decide) (by decide) (by decide) (by decide) ?_
        refine lv_aload_n hx hb dX7_beat_48 rfl (lv_at hl 0 rfl) ?_
        refine g_get (C := RX7) (T := TX7) (N := 7) hx hb hts hown hK hP ho0 nX7_beat_X7 rfl 0 (by decide) (by decide +kernel) rfl (v := .ref x) rfl dX7_beat_49 ?_
        refine g_get (C := RX4) (T := TX4) (N := 13) hx hb hts hown hK hP hSt.c0 nX7_beat_X4 rfl 5 (by decide) (by decide +kernel) rfl (v := .ref (x + 1)) rfl dX7_beat_52 ?_
        refine lv_iload_n hx hb dX7_beat_55 rfl (lv_at hl 1 rfl) ?_
        refine g_top (y := (nI (tk a1))) ha1e ?_
        refine g_runV (As := [.int (nI (tk a1))]) (rest := []) (own := RX7) (C := RX2) (T := TX2) (N := 1) 1 hx hb hml hown hts hK hz hP hL hS hlo hl.1 (c_X2_at l (x + 1) 96 (tk a1) (S 0) σ sz ⟨hSt.c1, hSt.c2⟩ (by omega) (by omega)) gX7_beat_X2_at rfl rfl rfl (by decide +kernel) ⟨Nat.le_of_ble_eq_true rfl, Nat.le_of_ble_eq_true rfl⟩ hSt.c1 rfl rfl rfl (Nat.le_of_ble_eq_true rfl) dX7_beat_56 ⟨Nat.le_of_ble_eq_true rfl, Nat.le_of_ble_eq_true rfl⟩ (g_ki0 (fun H locs hz hP hL hS => ?_))
        exact g_iret (z := sz) hx hb hr hlk hz hP hL hS dX7_beat_59 (gxi_i ⟨by unfold t_beat; rw [if_pos (by first | exact c8 | exact nb c8 | exact Ne.symm c8 | exact fun q => q c8 | exact fun q => q c8.symm | omega), if_pos hsw], ⟨x, t, pa, sn, v, ch, tu, _, _, ⟨hx0, ht0, hpa0, hsn0, hv0, hch0, htu0, hob⟩, ho0, hSt, ⟨_, _, _, _, hTx⟩, hPa, hsn, ⟨_, _, _, _, hVo⟩, ⟨_, _, _, hCh⟩, ⟨_, hTu⟩, hPl, hg, hkp, htn, hP5⟩, rfl, hag⟩)
      · have hsw : a2 = nI 1 := by rw [hke, hk0]
        refine g_top (y := nI 1) hsw ?_
        refine lv_tableIn (tgt := 60) (off := 46) hx hb dX7_beat_14 (by decide) (by decide) (by decide) (by decide) ?_
        refine lv_aload_n hx hb dX7_beat_60 rfl (lv_at hl 0 rfl) ?_
        refine g_get (C := RX7) (T := TX7) (N := 7) hx hb hts hown hK hP ho0 nX7_beat_X7 rfl 0 (by decide) (by decide +kernel) rfl (v := .ref x) rfl dX7_beat_61 ?_
        refine g_get (C := RX4) (T := TX4) (N := 13) hx hb hts hown hK hP hSt.c0 nX7_beat_X4 rfl 6 (by decide) (by decide +kernel) rfl (v := .ref (x + 3)) rfl dX7_beat_64 ?_
        refine lv_iload_n hx hb dX7_beat_67 rfl (lv_at hl 1 rfl) ?_
        refine g_top (y := (nI (tk a1))) ha1e ?_
        refine g_runV (As := [.int (nI (tk a1))]) (rest := []) (own := RX7) (C := RX2) (T := TX2) (N := 1) 1 hx hb hml hown hts hK hz hP hL hS hlo hl.1 (c_X2_at l (x + 3) 96 (tk a1) (S 1) σ sz ⟨hSt.c3, hSt.c4⟩ (by omega) (by omega)) gX7_beat_X2_at rfl rfl rfl (by decide +kernel) ⟨Nat.le_of_ble_eq_true rfl, Nat.le_of_ble_eq_true rfl⟩ hSt.c3 rfl rfl rfl (Nat.le_of_ble_eq_true rfl) dX7_beat_68 ⟨Nat.le_of_ble_eq_true rfl, Nat.le_of_ble_eq_true rfl⟩ (g_ki0 (fun H locs hz hP hL hS => ?_))
        exact g_iret (z := sz) hx hb hr hlk hz hP hL hS dX7_beat_71 (gxi_i ⟨by unfold t_beat; rw [if_pos (by first | exact c8 | exact nb c8 | exact Ne.symm c8 | exact fun q => q c8 | exact fun q => q c8.symm | omega), if_neg (by rw [hsw]; decide), if_pos hsw], ⟨x, t, pa, sn, v, ch, tu, _, _, ⟨hx0, ht0, hpa0, hsn0, hv0, hch0, htu0, hob⟩, ho0, hSt, ⟨_, _, _, _, hTx⟩, hPa, hsn, ⟨_, _, _, _, hVo⟩, ⟨_, _, _, hCh⟩, ⟨_, hTu⟩, hPl, hg, hkp, htn, hP5⟩, rfl, hag⟩)
      · have hsw : a2 = nI 2 := by rw [hke, hk0]
        refine g_top (y := nI 2) hsw ?_
        refine lv_tableIn (tgt := 72) (off := 58) hx hb dX7_beat_14 (by decide) (by decide) (by decide) (by decide) ?_
        refine lv_aload_n hx hb dX7_beat_72 rfl (lv_at hl 0 rfl) ?_
        refine g_get (C := RX7) (T := TX7) (N := 7) hx hb hts hown hK hP ho0 nX7_beat_X7 rfl 0 (by decide) (by decide +kernel) rfl (v := .ref x) rfl dX7_beat_73 ?_
        refine lv_iload_n hx hb dX7_beat_76 rfl (lv_at hl 1 rfl) ?_
        refine g_top (y := (nI (tk a1))) ha1e ?_
        refine g_runV (As := [.int (nI (tk a1))]) (rest := []) (own := RX7) (C := RX4) (T := TX4) (N := 13) 1 hx hb hml hown hts hK hz hP hL hS hlo hl.1 (c_X4_firstOfSyllable l x S (tk a1) σ sz hSt (by omega)) gX7_beat_X4_firstOfSyllable rfl rfl rfl (by decide +kernel) ⟨Nat.le_of_ble_eq_true rfl, Nat.le_of_ble_eq_true rfl⟩ hSt.c0 rfl rfl rfl (Nat.le_of_ble_eq_true rfl) dX7_beat_77 ⟨Nat.le_of_ble_eq_true rfl, Nat.le_of_ble_eq_true rfl⟩ (g_ki0 (fun H locs hz hP hL hS => ?_))
        exact g_iret (z := sz) hx hb hr hlk hz hP hL hS dX7_beat_80 (gxi_i ⟨by unfold t_beat; rw [if_pos (by first | exact c8 | exact nb c8 | exact Ne.symm c8 | exact fun q => q c8 | exact fun q => q c8.symm | omega), if_neg (by rw [hsw]; decide), if_neg (by rw [hsw]; decide), if_pos hsw], ⟨x, t, pa, sn, v, ch, tu, _, _, ⟨hx0, ht0, hpa0, hsn0, hv0, hch0, htu0, hob⟩, ho0, hSt, ⟨_, _, _, _, hTx⟩, hPa, hsn, ⟨_, _, _, _, hVo⟩, ⟨_, _, _, hCh⟩, ⟨_, hTu⟩, hPl, hg, hkp, htn, hP5⟩, rfl, hag⟩)
      · have hsw : a2 = nI 3 := by rw [hke, hk0]
        refine g_top (y := nI 3) hsw ?_
        refine lv_tableIn (tgt := 90) (off := 76) hx hb dX7_beat_14 (by decide) (by decide) (by decide) (by decide) ?_
        refine lv_aload_n hx hb dX7_beat_90 rfl (lv_at hl 0 rfl) ?_
        refine g_get (C := RX7) (T := TX7) (N := 7) hx hb hts hown hK hP ho0 nX7_beat_X7 rfl 5 (by decide) (by decide +kernel) rfl (v := .ref ch) rfl dX7_beat_91 ?_
        refine lv_aload_n hx hb dX7_beat_94 rfl (lv_at hl 0 rfl) ?_
        refine g_get (C := RX7) (T := TX7) (N := 7) hx hb hts hown hK hP ho0 nX7_beat_X7 rfl 0 (by decide) (by decide +kernel) rfl (v := .ref x) rfl dX7_beat_95 ?_
        refine lv_aload_n hx hb dX7_beat_98 rfl (lv_at hl 0 rfl) ?_
        refine g_get (C := RX7) (T := TX7) (N := 7) hx hb hts hown hK hP ho0 nX7_beat_X7 rfl 4 (by decide) (by decide +kernel) rfl (v := .ref v) rfl dX7_beat_99 ?_
        refine g_runV (As := [.ref x, .ref v]) (rest := []) (own := RX7) (C := RX0) (T := TX0) (N := 3) 2 hx hb hml hown hts hK hz hP hL hS hlo hl.1 (c_X0_follow l ch x v S ca cb cd vd vf vb vw σ sz hSt hCh hVo (by omega) (by omega) (by omega) (by omega) (by omega) (by omega)) gX7_beat_X0_follow rfl rfl rfl (by decide +kernel) ⟨Nat.le_of_ble_eq_true rfl, Nat.le_of_ble_eq_true rfl⟩ hCh.c0 rfl rfl rfl (Nat.le_of_ble_eq_true rfl) dX7_beat_102 ⟨Nat.le_of_ble_eq_true rfl, Nat.le_of_ble_eq_true rfl⟩ (g_kxv0 (fun τ_1 H locs z1 hz hp hP hL hS => ?_))
        obtain ⟨hz1, hc_1, ⟨d_1, f_1, b_1, w_1, hv_1⟩, ha_1⟩ := hp
        have hz := hz.trans hz1
        have hSt := hSt.fr (τ := τ_1) (fun q h1 h2 => ha_1 q (fun h => Or.elim h (fun h3 => by have h4 := h3.1; have h5 := h3.2; omega) (fun h3 => by have h4 := h3.1; have h5 := h3.2; omega)))
        have hTx := hTx.fr (τ := τ_1) (fun q h1 h2 => ha_1 q (fun h => Or.elim h (fun h3 => by have h4 := h3.1; have h5 := h3.2; omega) (fun h3 => by have h4 := h3.1; have h5 := h3.2; omega)))
        have hPa := hPa.fr (τ := τ_1) (fun q h1 h2 => ha_1 q (fun h => Or.elim h (fun h3 => by have h4 := h3.1; have h5 := h3.2; omega) (fun h3 => by have h4 := h3.1; have h5 := h3.2; omega)))
        have hTu := hTu.fr (τ := τ_1) (fun q h1 h2 => ha_1 q (fun h => Or.elim h (fun h3 => by have h4 := h3.1; have h5 := h3.2; omega) (fun h3 => by have h4 := h3.1; have h5 := h3.2; omega)))
        have hPl := hPl.fr (τ := τ_1) (fun q h1 h2 => ha_1 q (fun h => Or.elim h (fun h3 => by have h4 := h3.1; have h5 := h3.2; omega) (fun h3 => by have h4 := h3.1; have h5 := h3.2; omega)))
        have hCh := hc_1
        have hVo := hv_1
        have hag := hag.tr ha_1 (fun q h => Or.elim h (fun h3 => ⟨by have h4 := h3.1; omega, by have h4 := h3.2; omega⟩) (fun h3 => ⟨by have h4 := h3.1; omega, by have h4 := h3.2; omega⟩))
        refine lv_aload_n hx hb dX7_beat_105 rfl (lv_at hl 0 rfl) ?_
        refine lv_iload_n hx hb dX7_beat_106 rfl (lv_at hl 1 rfl) ?_
        refine g_top (y := (nI (tk a1))) ha1e ?_
        refine lv_iload_n hx hb dX7_beat_107 rfl (lv_at hl 2 rfl) ?_
        refine g_top (y := (nI 3)) hsw ?_
        refine g_runV (As := [.int (nI (tk a1)), .int (nI 3)]) (rest := []) (own := RX7) (C := RX7) (T := TX7) (N := 7) 2 hx hb hml hown hts hK hz hP hL hS hlo hl.1 (c_X7_performed l o x t pa sn v ch tu S (chR S 0) (chR S 1) (chR S 2) (tk a1) ((nI 3)) τ_1 sz ((ha_1 _ (fun h => Or.elim h (fun h3 => by have h4 := h3.1; have h5 := h3.2; omega) (fun h3 => by have h4 := h3.1; have h5 := h3.2; omega))).trans ho0) hSt hCh (by omega)) gX7_beat_X7_performed rfl rfl rfl (by decide +kernel) ⟨Nat.le_of_ble_eq_true rfl, Nat.le_of_ble_eq_true rfl⟩ ((ha_1 _ (fun h => Or.elim h (fun h3 => by have h4 := h3.1; have h5 := h3.2; omega) (fun h3 => by have h4 := h3.1; have h5 := h3.2; omega))).trans ho0) rfl rfl rfl (Nat.le_of_ble_eq_true rfl) dX7_beat_108 ⟨Nat.le_of_ble_eq_true rfl, Nat.le_of_ble_eq_true rfl⟩ (g_ki0 (fun H locs hz hP hL hS => ?_))
        exact g_iret (z := sz) hx hb hr hlk hz hP hL hS dX7_beat_111 (gxi_i ⟨by unfold t_beat; rw [if_pos (by first | exact c8 | exact nb c8 | exact Ne.symm c8 | exact fun q => q c8 | exact fun q => q c8.symm | omega), if_neg (by rw [hsw]; decide), if_neg (by rw [hsw]; decide), if_neg (by rw [hsw]; decide), if_neg (by rw [hsw]; decide)]; rw [hsw], ⟨x, t, pa, sn, v, ch, tu, _, _, ⟨hx0, ht0, hpa0, hsn0, hv0, hch0, htu0, hob⟩, ((ha_1 _ (fun h => Or.elim h (fun h3 => by have h4 := h3.1; have h5 := h3.2; omega) (fun h3 => by have h4 := h3.1; have h5 := h3.2; omega))).trans ho0), hSt, ⟨_, _, _, _, hTx⟩, hPa, ((ha_1 _ (fun h => Or.elim h (fun h3 => by have h4 := h3.1; have h5 := h3.2; omega) (fun h3 => by have h4 := h3.1; have h5 := h3.2; omega))).trans hsn), ⟨_, _, _, _, hVo⟩, ⟨_, _, _, hCh⟩, ⟨_, hTu⟩, hPl, hg, hkp, htn, hP5⟩, rfl, hag⟩)
      · have hsw : a2 = nI 4 := by rw [hke, hk0]
        refine g_top (y := nI 4) hsw ?_
        refine lv_tableIn (tgt := 81) (off := 67) hx hb dX7_beat_14 (by decide) (by decide) (by decide) (by decide) ?_
        refine lv_aload_n hx hb dX7_beat_81 rfl (lv_at hl 0 rfl) ?_
        refine g_get (C := RX7) (T := TX7) (N := 7) hx hb hts hown hK hP ho0 nX7_beat_X7 rfl 0 (by decide) (by decide +kernel) rfl (v := .ref x) rfl dX7_beat_82 ?_
        refine lv_iload_n hx hb dX7_beat_85 rfl (lv_at hl 1 rfl) ?_
        refine g_top (y := (nI (tk a1))) ha1e ?_
        refine g_runV (As := [.int (nI (tk a1))]) (rest := []) (own := RX7) (C := RX4) (T := TX4) (N := 13) 1 hx hb hml hown hts hK hz hP hL hS hlo hl.1 (c_X4_soloAt l x S (tk a1) σ sz hSt (by omega)) gX7_beat_X4_soloAt rfl rfl rfl (by decide +kernel) ⟨Nat.le_of_ble_eq_true rfl, Nat.le_of_ble_eq_true rfl⟩ hSt.c0 rfl rfl rfl (Nat.le_of_ble_eq_true rfl) dX7_beat_86 ⟨Nat.le_of_ble_eq_true rfl, Nat.le_of_ble_eq_true rfl⟩ (g_ki0 (fun H locs hz hP hL hS => ?_))
        exact g_iret (z := sz) hx hb hr hlk hz hP hL hS dX7_beat_89 (gxi_i ⟨by unfold t_beat; rw [if_pos (by first | exact c8 | exact nb c8 | exact Ne.symm c8 | exact fun q => q c8 | exact fun q => q c8.symm | omega), if_neg (by rw [hsw]; decide), if_neg (by rw [hsw]; decide), if_neg (by rw [hsw]; decide), if_pos hsw], ⟨x, t, pa, sn, v, ch, tu, _, _, ⟨hx0, ht0, hpa0, hsn0, hv0, hch0, htu0, hob⟩, ho0, hSt, ⟨_, _, _, _, hTx⟩, hPa, hsn, ⟨_, _, _, _, hVo⟩, ⟨_, _, _, hCh⟩, ⟨_, hTu⟩, hPl, hg, hkp, htn, hP5⟩, rfl, hag⟩)
    · refine lv_tableOut (tgt := 90) hx hb dX7_beat_14 (ts_out (by decide) (by decide) hout14) (by decide) ?_
      refine lv_aload_n hx hb dX7_beat_90 rfl (lv_at hl 0 rfl) ?_
      refine g_get (C := RX7) (T := TX7) (N := 7) hx hb hts hown hK hP ho0 nX7_beat_X7 rfl 5 (by decide) (by decide +kernel) rfl (v := .ref ch) rfl dX7_beat_91 ?_
      refine lv_aload_n hx hb dX7_beat_94 rfl (lv_at hl 0 rfl) ?_
      refine g_get (C := RX7) (T := TX7) (N := 7) hx hb hts hown hK hP ho0 nX7_beat_X7 rfl 0 (by decide) (by decide +kernel) rfl (v := .ref x) rfl dX7_beat_95 ?_
      refine lv_aload_n hx hb dX7_beat_98 rfl (lv_at hl 0 rfl) ?_
      refine g_get (C := RX7) (T := TX7) (N := 7) hx hb hts hown hK hP ho0 nX7_beat_X7 rfl 4 (by decide) (by decide +kernel) rfl (v := .ref v) rfl dX7_beat_99 ?_
      refine g_runV (As := [.ref x, .ref v]) (rest := []) (own := RX7) (C := RX0) (T := TX0) (N := 3) 2 hx hb hml hown hts hK hz hP hL hS hlo hl.1 (c_X0_follow l ch x v S ca cb cd vd vf vb vw σ sz hSt hCh hVo (by omega) (by omega) (by omega) (by omega) (by omega) (by omega)) gX7_beat_X0_follow rfl rfl rfl (by decide +kernel) ⟨Nat.le_of_ble_eq_true rfl, Nat.le_of_ble_eq_true rfl⟩ hCh.c0 rfl rfl rfl (Nat.le_of_ble_eq_true rfl) dX7_beat_102 ⟨Nat.le_of_ble_eq_true rfl, Nat.le_of_ble_eq_true rfl⟩ (g_kxv0 (fun τ_2 H locs z1 hz hp hP hL hS => ?_))
      obtain ⟨hz1, hc_2, ⟨d_2, f_2, b_2, w_2, hv_2⟩, ha_2⟩ := hp
      have hz := hz.trans hz1
      have hSt := hSt.fr (τ := τ_2) (fun q h1 h2 => ha_2 q (fun h => Or.elim h (fun h3 => by have h4 := h3.1; have h5 := h3.2; omega) (fun h3 => by have h4 := h3.1; have h5 := h3.2; omega)))
      have hTx := hTx.fr (τ := τ_2) (fun q h1 h2 => ha_2 q (fun h => Or.elim h (fun h3 => by have h4 := h3.1; have h5 := h3.2; omega) (fun h3 => by have h4 := h3.1; have h5 := h3.2; omega)))
      have hPa := hPa.fr (τ := τ_2) (fun q h1 h2 => ha_2 q (fun h => Or.elim h (fun h3 => by have h4 := h3.1; have h5 := h3.2; omega) (fun h3 => by have h4 := h3.1; have h5 := h3.2; omega)))
      have hTu := hTu.fr (τ := τ_2) (fun q h1 h2 => ha_2 q (fun h => Or.elim h (fun h3 => by have h4 := h3.1; have h5 := h3.2; omega) (fun h3 => by have h4 := h3.1; have h5 := h3.2; omega)))
      have hPl := hPl.fr (τ := τ_2) (fun q h1 h2 => ha_2 q (fun h => Or.elim h (fun h3 => by have h4 := h3.1; have h5 := h3.2; omega) (fun h3 => by have h4 := h3.1; have h5 := h3.2; omega)))
      have hCh := hc_2
      have hVo := hv_2
      have hag := hag.tr ha_2 (fun q h => Or.elim h (fun h3 => ⟨by have h4 := h3.1; omega, by have h4 := h3.2; omega⟩) (fun h3 => ⟨by have h4 := h3.1; omega, by have h4 := h3.2; omega⟩))
      refine lv_aload_n hx hb dX7_beat_105 rfl (lv_at hl 0 rfl) ?_
      refine lv_iload_n hx hb dX7_beat_106 rfl (lv_at hl 1 rfl) ?_
      refine g_top (y := (nI (tk a1))) ha1e ?_
      refine lv_iload_n hx hb dX7_beat_107 rfl (lv_at hl 2 rfl) ?_
      refine g_runV (As := [.int (nI (tk a1)), .int a2]) (rest := []) (own := RX7) (C := RX7) (T := TX7) (N := 7) 2 hx hb hml hown hts hK hz hP hL hS hlo hl.1 (c_X7_performed l o x t pa sn v ch tu S (chR S 0) (chR S 1) (chR S 2) (tk a1) a2 τ_2 sz ((ha_2 _ (fun h => Or.elim h (fun h3 => by have h4 := h3.1; have h5 := h3.2; omega) (fun h3 => by have h4 := h3.1; have h5 := h3.2; omega))).trans ho0) hSt hCh (by omega)) gX7_beat_X7_performed rfl rfl rfl (by decide +kernel) ⟨Nat.le_of_ble_eq_true rfl, Nat.le_of_ble_eq_true rfl⟩ ((ha_2 _ (fun h => Or.elim h (fun h3 => by have h4 := h3.1; have h5 := h3.2; omega) (fun h3 => by have h4 := h3.1; have h5 := h3.2; omega))).trans ho0) rfl rfl rfl (Nat.le_of_ble_eq_true rfl) dX7_beat_108 ⟨Nat.le_of_ble_eq_true rfl, Nat.le_of_ble_eq_true rfl⟩ (g_ki0 (fun H locs hz hP hL hS => ?_))
      exact g_iret (z := sz) hx hb hr hlk hz hP hL hS dX7_beat_111 (gxi_i ⟨by unfold t_beat; rw [if_pos (by first | exact c8 | exact nb c8 | exact Ne.symm c8 | exact fun q => q c8 | exact fun q => q c8.symm | omega), if_neg (fun q => hout14 (by rw [q]; decide)), if_neg (fun q => hout14 (by rw [q]; decide)), if_neg (fun q => hout14 (by rw [q]; decide)), if_neg (fun q => hout14 (by rw [q]; decide))], ⟨x, t, pa, sn, v, ch, tu, _, _, ⟨hx0, ht0, hpa0, hsn0, hv0, hch0, htu0, hob⟩, ((ha_2 _ (fun h => Or.elim h (fun h3 => by have h4 := h3.1; have h5 := h3.2; omega) (fun h3 => by have h4 := h3.1; have h5 := h3.2; omega))).trans ho0), hSt, ⟨_, _, _, _, hTx⟩, hPa, ((ha_2 _ (fun h => Or.elim h (fun h3 => by have h4 := h3.1; have h5 := h3.2; omega) (fun h3 => by have h4 := h3.1; have h5 := h3.2; omega))).trans hsn), ⟨_, _, _, _, hVo⟩, ⟨_, _, _, hCh⟩, ⟨_, hTu⟩, hPl, hg, hkp, htn, hP5⟩, rfl, hag⟩)
  · refine lv_iconst (v := (-1)) hx hb dX7_beat_11 (by decide) ?_
    exact g_iret (z := sz) hx hb hr hlk hz hP hL hS dX7_beat_12 (gxi_i ⟨by unfold t_beat; rw [if_neg (by first | exact c8 | exact nb c8 | exact Ne.symm c8 | exact fun q => q c8 | exact fun q => q c8.symm | omega)], ⟨x, t, pa, sn, v, ch, tu, _, _, ⟨hx0, ht0, hpa0, hsn0, hv0, hch0, htu0, hob⟩, ho0, hSt, ⟨_, _, _, _, hTx⟩, hPa, hsn, ⟨_, _, _, _, hVo⟩, ⟨_, _, _, hCh⟩, ⟨_, hTu⟩, hPl, hg, hkp, htn, hP5⟩, rfl, hag⟩)

theorem nX7_singer_X4 : ∀ w ∈ wsX40, w ∈ wsX7_singer := by decide +kernel
theorem nX7_singer_X7 : ∀ w ∈ wsX70, w ∈ wsX7_singer := by decide +kernel
set_option maxHeartbeats 4000000 in
set_option maxRecDepth 100000 in
theorem c_X7_singer (l : Launch) (o b : Nat) (S : sS) (tf : Nat → Int32) (tn P : Nat) (C : Nat → sS) (kp : Nat → Bool) (zp : Nat) (a1 a2 : Int32) (σ : gS) (sz : Nat) (hW : Wo σ o b S tf tn P C kp zp) (hok : okS S) : gM l yX7_singer wsX7_singer ({ frames := 5, cells := 0, slots := 0, locals := 116 } : Room) 0 0 [.ref o, .int a1, .int a2] σ sz (gxi (fun r τ n => r = t_singer S a1 a2 ∧ Wo τ o b S tf tn P C kp zp ∧ n = sz ∧ gAs (gZo o 39) σ τ)) := by
  refine gM_of (cc := cX7_singer) (maxL := 3) (ret := (some .int)) (by decide) rfl (Nat.le_of_ble_eq_true rfl) ?_
  intro D ka lo hL hlo p e s m below meth c hx hb hr hts hown hml hlk hnm hK H locs ls hz hP hS hl
  have hl : lv_has ls 3 [(0, .ref o), (1, .int a1), (2, .int a2)] := hl
  have hown : s.vm.findClass RX7 = some m.cls := hown
  obtain ⟨x, t, pa, sn, v, ch, tu, g, sg, ⟨hx0, ht0, hpa0, hsn0, hv0, hch0, htu0, hob⟩, ho0, hSt, ⟨ta, tso, tld, tti, hTx⟩, hPa, hsn, ⟨vd, vf, vb, vw, hVo⟩, ⟨ca, cb, cd, hCh⟩, ⟨lf, hTu⟩, hPl, hg, hkp, htn, hP5⟩ := hW
  obtain ⟨hB, hN, hKs, hRs⟩ := hok
  have hbz := hPl.1
  have hag : gAs (gZo o 39) σ σ := gAs.rf
  refine lv_aload_n hx hb dX7_singer_0 rfl (lv_at hl 0 rfl) ?_
  refine g_get (C := RX7) (T := TX7) (N := 7) hx hb hts hown hK hP ho0 nX7_singer_X7 rfl 0 (by decide) (by decide +kernel) rfl (v := .ref x) rfl dX7_singer_1 ?_
  refine lv_iload_n hx hb dX7_singer_4 rfl (lv_at hl 1 rfl) ?_
  refine g_runV (As := [.int a1]) (rest := []) (own := RX7) (C := RX4) (T := TX4) (N := 13) 1 hx hb hml hown hts hK hz hP hL hS hlo hl.1 (c_X4_hasSinger l x S a1 σ sz hSt) gX7_singer_X4_hasSinger rfl rfl rfl (by decide +kernel) ⟨Nat.le_of_ble_eq_true rfl, Nat.le_of_ble_eq_true rfl⟩ hSt.c0 rfl rfl rfl (Nat.le_of_ble_eq_true rfl) dX7_singer_5 ⟨Nat.le_of_ble_eq_true rfl, Nat.le_of_ble_eq_true rfl⟩ (g_ki0 (fun H locs hz hP hL hS => ?_))
  refine g_ifb_ne (tgt := 13) hx hb dX7_singer_8 (by decide) (fun c8 => ?_) (fun c8 => ?_)
  · obtain ⟨ha1e, ha1l⟩ := tk_in c8 (by omega)
    refine lv_iload_n hx hb dX7_singer_13 rfl (lv_at hl 2 rfl) ?_
    rcases Decidable.em (inB a2 (nI 0) (nI 3) = true) with hin14 | hout14
    · obtain ⟨k14, hk1, hk2, hke⟩ := inB_of (by decide) (by decide) hin14
      rcases (show k14 = 0 ∨ k14 = 1 ∨ k14 = 2 ∨ k14 = 3 by omega) with hk0 | hk0 | hk0 | hk0
      · have hsw : a2 = nI 0 := by rw [hke, hk0]
        refine g_top (y := nI 0) hsw ?_
        refine lv_tableIn (tgt := 44) (off := 30) hx hb dX7_singer_14 (by decide) (by decide) (by decide) (by decide) ?_
        refine lv_aload_n hx hb dX7_singer_44 rfl (lv_at hl 0 rfl) ?_
        refine g_get (C := RX7) (T := TX7) (N := 7) hx hb hts hown hK hP ho0 nX7_singer_X7 rfl 0 (by decide) (by decide +kernel) rfl (v := .ref x) rfl dX7_singer_45 ?_
        refine g_get (C := RX4) (T := TX4) (N := 13) hx hb hts hown hK hP hSt.c0 nX7_singer_X4 rfl 8 (by decide) (by decide +kernel) rfl (v := .ref (x + 7)) rfl dX7_singer_48 ?_
        refine lv_iload_n hx hb dX7_singer_51 rfl (lv_at hl 1 rfl) ?_
        refine g_top (y := (nI (tk a1))) ha1e ?_
        refine g_runV (As := [.int (nI (tk a1))]) (rest := []) (own := RX7) (C := RX2) (T := TX2) (N := 1) 1 hx hb hml hown hts hK hz hP hL hS hlo hl.1 (c_X2_at l (x + 7) 12 (tk a1) (S 3) σ sz ⟨hSt.c7, hSt.c8⟩ (by omega) (by omega)) gX7_singer_X2_at rfl rfl rfl (by decide +kernel) ⟨Nat.le_of_ble_eq_true rfl, Nat.le_of_ble_eq_true rfl⟩ hSt.c7 rfl rfl rfl (Nat.le_of_ble_eq_true rfl) dX7_singer_52 ⟨Nat.le_of_ble_eq_true rfl, Nat.le_of_ble_eq_true rfl⟩ (g_ki0 (fun H locs hz hP hL hS => ?_))
        exact g_iret (z := sz) hx hb hr hlk hz hP hL hS dX7_singer_55 (gxi_i ⟨by unfold t_singer; rw [if_pos (by first | exact c8 | exact nb c8 | exact Ne.symm c8 | exact fun q => q c8 | exact fun q => q c8.symm | omega), if_pos hsw], ⟨x, t, pa, sn, v, ch, tu, _, _, ⟨hx0, ht0, hpa0, hsn0, hv0, hch0, htu0, hob⟩, ho0, hSt, ⟨_, _, _, _, hTx⟩, hPa, hsn, ⟨_, _, _, _, hVo⟩, ⟨_, _, _, hCh⟩, ⟨_, hTu⟩, hPl, hg, hkp, htn, hP5⟩, rfl, hag⟩)
      · have hsw : a2 = nI 1 := by rw [hke, hk0]
        refine g_top (y := nI 1) hsw ?_
        refine lv_tableIn (tgt := 56) (off := 42) hx hb dX7_singer_14 (by decide) (by decide) (by decide) (by decide) ?_
        refine lv_aload_n hx hb dX7_singer_56 rfl (lv_at hl 0 rfl) ?_
        refine g_get (C := RX7) (T := TX7) (N := 7) hx hb hts hown hK hP ho0 nX7_singer_X7 rfl 0 (by decide) (by decide +kernel) rfl (v := .ref x) rfl dX7_singer_57 ?_
        refine g_get (C := RX4) (T := TX4) (N := 13) hx hb hts hown hK hP hSt.c0 nX7_singer_X4 rfl 9 (by decide) (by decide +kernel) rfl (v := .ref (x + 9)) rfl dX7_singer_60 ?_
        refine lv_iload_n hx hb dX7_singer_63 rfl (lv_at hl 1 rfl) ?_
        refine g_top (y := (nI (tk a1))) ha1e ?_
        refine g_runV (As := [.int (nI (tk a1))]) (rest := []) (own := RX7) (C := RX2) (T := TX2) (N := 1) 1 hx hb hml hown hts hK hz hP hL hS hlo hl.1 (c_X2_at l (x + 9) 12 (tk a1) (S 4) σ sz ⟨hSt.c9, hSt.c10⟩ (by omega) (by omega)) gX7_singer_X2_at rfl rfl rfl (by decide +kernel) ⟨Nat.le_of_ble_eq_true rfl, Nat.le_of_ble_eq_true rfl⟩ hSt.c9 rfl rfl rfl (Nat.le_of_ble_eq_true rfl) dX7_singer_64 ⟨Nat.le_of_ble_eq_true rfl, Nat.le_of_ble_eq_true rfl⟩ (g_ki0 (fun H locs hz hP hL hS => ?_))
        exact g_iret (z := sz) hx hb hr hlk hz hP hL hS dX7_singer_67 (gxi_i ⟨by unfold t_singer; rw [if_pos (by first | exact c8 | exact nb c8 | exact Ne.symm c8 | exact fun q => q c8 | exact fun q => q c8.symm | omega), if_neg (by rw [hsw]; decide), if_pos hsw], ⟨x, t, pa, sn, v, ch, tu, _, _, ⟨hx0, ht0, hpa0, hsn0, hv0, hch0, htu0, hob⟩, ho0, hSt, ⟨_, _, _, _, hTx⟩, hPa, hsn, ⟨_, _, _, _, hVo⟩, ⟨_, _, _, hCh⟩, ⟨_, hTu⟩, hPl, hg, hkp, htn, hP5⟩, rfl, hag⟩)
      · have hsw : a2 = nI 2 := by rw [hke, hk0]
        refine g_top (y := nI 2) hsw ?_
        refine lv_tableIn (tgt := 68) (off := 54) hx hb dX7_singer_14 (by decide) (by decide) (by decide) (by decide) ?_
        refine lv_aload_n hx hb dX7_singer_68 rfl (lv_at hl 0 rfl) ?_
        refine g_get (C := RX7) (T := TX7) (N := 7) hx hb hts hown hK hP ho0 nX7_singer_X7 rfl 0 (by decide) (by decide +kernel) rfl (v := .ref x) rfl dX7_singer_69 ?_
        refine lv_iload_n hx hb dX7_singer_72 rfl (lv_at hl 1 rfl) ?_
        refine g_top (y := (nI (tk a1))) ha1e ?_
        refine g_runV (As := [.int (nI (tk a1))]) (rest := []) (own := RX7) (C := RX4) (T := TX4) (N := 13) 1 hx hb hml hown hts hK hz hP hL hS hlo hl.1 (c_X4_isPresent l x S (tk a1) σ sz hSt) gX7_singer_X4_isPresent rfl rfl rfl (by decide +kernel) ⟨Nat.le_of_ble_eq_true rfl, Nat.le_of_ble_eq_true rfl⟩ hSt.c0 rfl rfl rfl (Nat.le_of_ble_eq_true rfl) dX7_singer_73 ⟨Nat.le_of_ble_eq_true rfl, Nat.le_of_ble_eq_true rfl⟩ (g_ki0 (fun H locs hz hP hL hS => ?_))
        refine g_ifb_eq (tgt := 83) hx hb dX7_singer_76 (by decide) (fun c76 => ?_) (fun c76 => ?_)
        · refine lv_iconst (v := (nI 0)) hx hb dX7_singer_83 (by decide) ?_
          exact g_iret (z := sz) hx hb hr hlk hz hP hL hS dX7_singer_84 (gxi_i ⟨by unfold t_singer; rw [if_pos (by first | exact c8 | exact nb c8 | exact Ne.symm c8 | exact fun q => q c8 | exact fun q => q c8.symm | omega), if_neg (by rw [hsw]; decide), if_neg (by rw [hsw]; decide), if_pos hsw]; rw [c76]; rfl, ⟨x, t, pa, sn, v, ch, tu, _, _, ⟨hx0, ht0, hpa0, hsn0, hv0, hch0, htu0, hob⟩, ho0, hSt, ⟨_, _, _, _, hTx⟩, hPa, hsn, ⟨_, _, _, _, hVo⟩, ⟨_, _, _, hCh⟩, ⟨_, hTu⟩, hPl, hg, hkp, htn, hP5⟩, rfl, hag⟩)
        · refine lv_iconst (v := (nI 1)) hx hb dX7_singer_79 (by decide) ?_
          refine lv_goto (tgt := 84) hx hb dX7_singer_80 (by decide) ?_
          exact g_iret (z := sz) hx hb hr hlk hz hP hL hS dX7_singer_84 (gxi_i ⟨by unfold t_singer; rw [if_pos (by first | exact c8 | exact nb c8 | exact Ne.symm c8 | exact fun q => q c8 | exact fun q => q c8.symm | omega), if_neg (by rw [hsw]; decide), if_neg (by rw [hsw]; decide), if_pos hsw]; rw [c76]; rfl, ⟨x, t, pa, sn, v, ch, tu, _, _, ⟨hx0, ht0, hpa0, hsn0, hv0, hch0, htu0, hob⟩, ho0, hSt, ⟨_, _, _, _, hTx⟩, hPa, hsn, ⟨_, _, _, _, hVo⟩, ⟨_, _, _, hCh⟩, ⟨_, hTu⟩, hPl, hg, hkp, htn, hP5⟩, rfl, hag⟩)
      · have hsw : a2 = nI 3 := by rw [hke, hk0]
        refine g_top (y := nI 3) hsw ?_
        refine lv_tableIn (tgt := 85) (off := 71) hx hb dX7_singer_14 (by decide) (by decide) (by decide) (by decide) ?_
        refine lv_aload_n hx hb dX7_singer_85 rfl (lv_at hl 0 rfl) ?_
        refine g_get (C := RX7) (T := TX7) (N := 7) hx hb hts hown hK hP ho0 nX7_singer_X7 rfl 0 (by decide) (by decide +kernel) rfl (v := .ref x) rfl dX7_singer_86 ?_
        refine lv_iload_n hx hb dX7_singer_89 rfl (lv_at hl 1 rfl) ?_
        refine g_top (y := (nI (tk a1))) ha1e ?_
        refine g_runV (As := [.int (nI (tk a1))]) (rest := []) (own := RX7) (C := RX4) (T := TX4) (N := 13) 1 hx hb hml hown hts hK hz hP hL hS hlo hl.1 (c_X4_countMarksOf l x S (tk a1) σ sz hSt (by omega)) gX7_singer_X4_countMarksOf rfl rfl rfl (by decide +kernel) ⟨Nat.le_of_ble_eq_true rfl, Nat.le_of_ble_eq_true rfl⟩ hSt.c0 rfl rfl rfl (Nat.le_of_ble_eq_true rfl) dX7_singer_90 ⟨Nat.le_of_ble_eq_true rfl, Nat.le_of_ble_eq_true rfl⟩ (g_ki0 (fun H locs hz hP hL hS => ?_))
        exact g_iret (z := sz) hx hb hr hlk hz hP hL hS dX7_singer_93 (gxi_i ⟨by unfold t_singer; rw [if_pos (by first | exact c8 | exact nb c8 | exact Ne.symm c8 | exact fun q => q c8 | exact fun q => q c8.symm | omega), if_neg (by rw [hsw]; decide), if_neg (by rw [hsw]; decide), if_neg (by rw [hsw]; decide), if_pos hsw], ⟨x, t, pa, sn, v, ch, tu, _, _, ⟨hx0, ht0, hpa0, hsn0, hv0, hch0, htu0, hob⟩, ho0, hSt, ⟨_, _, _, _, hTx⟩, hPa, hsn, ⟨_, _, _, _, hVo⟩, ⟨_, _, _, hCh⟩, ⟨_, hTu⟩, hPl, hg, hkp, htn, hP5⟩, rfl, hag⟩)
    · refine lv_tableOut (tgt := 94) hx hb dX7_singer_14 (ts_out (by decide) (by decide) hout14) (by decide) ?_
      refine lv_aload_n hx hb dX7_singer_94 rfl (lv_at hl 0 rfl) ?_
      refine g_get (C := RX7) (T := TX7) (N := 7) hx hb hts hown hK hP ho0 nX7_singer_X7 rfl 4 (by decide) (by decide +kernel) rfl (v := .ref v) rfl dX7_singer_95 ?_
      refine lv_aload_n hx hb dX7_singer_98 rfl (lv_at hl 0 rfl) ?_
      refine g_get (C := RX7) (T := TX7) (N := 7) hx hb hts hown hK hP ho0 nX7_singer_X7 rfl 0 (by decide) (by decide +kernel) rfl (v := .ref x) rfl dX7_singer_99 ?_
      refine lv_iload_n hx hb dX7_singer_102 rfl (lv_at hl 1 rfl) ?_
      refine g_top (y := (nI (tk a1))) ha1e ?_
      refine lv_aload_n hx hb dX7_singer_103 rfl (lv_at hl 0 rfl) ?_
      refine g_get (C := RX7) (T := TX7) (N := 7) hx hb hts hown hK hP ho0 nX7_singer_X7 rfl 0 (by decide) (by decide +kernel) rfl (v := .ref x) rfl dX7_singer_104 ?_
      refine g_get (C := RX4) (T := TX4) (N := 13) hx hb hts hown hK hP hSt.c0 nX7_singer_X4 rfl 8 (by decide) (by decide +kernel) rfl (v := .ref (x + 7)) rfl dX7_singer_107 ?_
      refine lv_iload_n hx hb dX7_singer_110 rfl (lv_at hl 1 rfl) ?_
      refine g_top (y := (nI (tk a1))) ha1e ?_
      refine g_runV (As := [.int (nI (tk a1))]) (rest := [.int (nI (tk a1)), .ref x, .ref v]) (own := RX7) (C := RX2) (T := TX2) (N := 1) 1 hx hb hml hown hts hK hz hP hL hS hlo hl.1 (c_X2_at l (x + 7) 12 (tk a1) (S 3) σ sz ⟨hSt.c7, hSt.c8⟩ (by omega) (by omega)) gX7_singer_X2_at rfl rfl rfl (by decide +kernel) ⟨Nat.le_of_ble_eq_true rfl, Nat.le_of_ble_eq_true rfl⟩ hSt.c7 rfl rfl rfl (Nat.le_of_ble_eq_true rfl) dX7_singer_111 ⟨Nat.le_of_ble_eq_true rfl, Nat.le_of_ble_eq_true rfl⟩ (g_ki0 (fun H locs hz hP hL hS => ?_))
      refine g_runV (As := [.ref x, .int (nI (tk a1)), .int ((S 3) (tk a1))]) (rest := []) (own := RX7) (C := RX6) (T := TX6) (N := 4) 3 hx hb hml hown hts hK hz hP hL hS hlo hl.1 (c_X6_follow l v x S (tk a1) (((S 3) (tk a1))) vd vf vb vw σ sz hSt hVo (by omega) (by omega) (by omega) (by omega)) gX7_singer_X6_follow rfl rfl rfl (by decide +kernel) ⟨Nat.le_of_ble_eq_true rfl, Nat.le_of_ble_eq_true rfl⟩ hVo.c0 rfl rfl rfl (Nat.le_of_ble_eq_true rfl) dX7_singer_114 ⟨Nat.le_of_ble_eq_true rfl, Nat.le_of_ble_eq_true rfl⟩ (g_kxv0 (fun τ_1 H locs z1 hz hp hP hL hS => ?_))
      obtain ⟨hz1, h_2n, h_2a⟩ := hp
      have hz := hz.trans hz1
      have hSt := hSt.fr (τ := τ_1) (fun q h1 h2 => h_2a q (fun h => by have h3 := h.1; have h4 := h.2; omega))
      have hTx := hTx.fr (τ := τ_1) (fun q h1 h2 => h_2a q (fun h => by have h3 := h.1; have h4 := h.2; omega))
      have hPa := hPa.fr (τ := τ_1) (fun q h1 h2 => h_2a q (fun h => by have h3 := h.1; have h4 := h.2; omega))
      have hCh := hCh.fr (τ := τ_1) (fun q h1 h2 => h_2a q (fun h => by have h3 := h.1; have h4 := h.2; omega))
      have hTu := hTu.fr (τ := τ_1) (fun q h1 h2 => h_2a q (fun h => by have h3 := h.1; have h4 := h.2; omega))
      have hPl := hPl.fr (τ := τ_1) (fun q h1 h2 => h_2a q (fun h => by have h3 := h.1; have h4 := h.2; omega))
      have hVo := h_2n
      have hag := hag.tr h_2a (fun q h => ⟨by have h3 := h.1; omega, by have h3 := h.2; omega⟩)
      refine lv_aload_n hx hb dX7_singer_117 rfl (lv_at hl 0 rfl) ?_
      refine lv_iload_n hx hb dX7_singer_118 rfl (lv_at hl 2 rfl) ?_
      refine g_runV (As := [.int a2]) (rest := []) (own := RX7) (C := RX7) (T := TX7) (N := 7) 1 hx hb hml hown hts hK hz hP hL hS hlo hl.1 (c_X7_performedBy l o x t pa sn v ch tu S (cpyF vd (fun j => nI (dosF S (tk a1) (((S 3) (tk a1))) j)) (sB S)) (cpyF vf (fun j => leftF S (tk a1) (((S 3) (tk a1))) (j + 1)) (sB S)) (sB S) (((S 3) (tk a1))) a2 τ_1 sz ((h_2a _ (fun h => by have h3 := h.1; have h4 := h.2; omega)).trans ho0) hVo (by omega)) gX7_singer_X7_performedBy rfl rfl rfl (by decide +kernel) ⟨Nat.le_of_ble_eq_true rfl, Nat.le_of_ble_eq_true rfl⟩ ((h_2a _ (fun h => by have h3 := h.1; have h4 := h.2; omega)).trans ho0) rfl rfl rfl (Nat.le_of_ble_eq_true rfl) dX7_singer_119 ⟨Nat.le_of_ble_eq_true rfl, Nat.le_of_ble_eq_true rfl⟩ (g_ki0 (fun H locs hz hP hL hS => ?_))
      exact g_iret (z := sz) hx hb hr hlk hz hP hL hS dX7_singer_122 (gxi_i ⟨by unfold t_singer; rw [if_pos (by first | exact c8 | exact nb c8 | exact Ne.symm c8 | exact fun q => q c8 | exact fun q => q c8.symm | omega), if_neg (fun q => hout14 (by rw [q]; decide)), if_neg (fun q => hout14 (by rw [q]; decide)), if_neg (fun q => hout14 (by rw [q]; decide)), if_neg (fun q => hout14 (by rw [q]; decide))]; exact pbI_c _ _ _ _ _ _ _, ⟨x, t, pa, sn, v, ch, tu, _, _, ⟨hx0, ht0, hpa0, hsn0, hv0, hch0, htu0, hob⟩, ((h_2a _ (fun h => by have h3 := h.1; have h4 := h.2; omega)).trans ho0), hSt, ⟨_, _, _, _, hTx⟩, hPa, ((h_2a _ (fun h => by have h3 := h.1; have h4 := h.2; omega)).trans hsn), ⟨_, _, _, _, hVo⟩, ⟨_, _, _, hCh⟩, ⟨_, hTu⟩, hPl, hg, hkp, htn, hP5⟩, rfl, hag⟩)
  · refine lv_iconst (v := (-1)) hx hb dX7_singer_11 (by decide) ?_
    exact g_iret (z := sz) hx hb hr hlk hz hP hL hS dX7_singer_12 (gxi_i ⟨by unfold t_singer; rw [if_neg (by first | exact c8 | exact nb c8 | exact Ne.symm c8 | exact fun q => q c8 | exact fun q => q c8.symm | omega)], ⟨x, t, pa, sn, v, ch, tu, _, _, ⟨hx0, ht0, hpa0, hsn0, hv0, hch0, htu0, hob⟩, ho0, hSt, ⟨_, _, _, _, hTx⟩, hPa, hsn, ⟨_, _, _, _, hVo⟩, ⟨_, _, _, hCh⟩, ⟨_, hTu⟩, hPl, hg, hkp, htn, hP5⟩, rfl, hag⟩)

theorem nX7_does_X4 : ∀ w ∈ wsX40, w ∈ wsX7_does := by decide +kernel
theorem nX7_does_X6 : ∀ w ∈ wsX60, w ∈ wsX7_does := by decide +kernel
theorem nX7_does_X7 : ∀ w ∈ wsX70, w ∈ wsX7_does := by decide +kernel
set_option maxHeartbeats 4000000 in
set_option maxRecDepth 100000 in
theorem c_X7_does (l : Launch) (o b : Nat) (S : sS) (tf : Nat → Int32) (tn P : Nat) (C : Nat → sS) (kp : Nat → Bool) (zp : Nat) (a1 a2 : Int32) (σ : gS) (sz : Nat) (hW : Wo σ o b S tf tn P C kp zp) (hok : okS S) : gM l yX7_does wsX7_does ({ frames := 5, cells := 0, slots := 0, locals := 116 } : Room) 0 0 [.ref o, .int a1, .int a2] σ sz (gxi (fun r τ n => r = t_does S a1 a2 ∧ Wo τ o b S tf tn P C kp zp ∧ n = sz ∧ gAs (gZo o 39) σ τ)) := by
  refine gM_of (cc := cX7_does) (maxL := 3) (ret := (some .int)) (by decide) rfl (Nat.le_of_ble_eq_true rfl) ?_
  intro D ka lo hL hlo p e s m below meth c hx hb hr hts hown hml hlk hnm hK H locs ls hz hP hS hl
  have hl : lv_has ls 3 [(0, .ref o), (1, .int a1), (2, .int a2)] := hl
  have hown : s.vm.findClass RX7 = some m.cls := hown
  obtain ⟨x, t, pa, sn, v, ch, tu, g, sg, ⟨hx0, ht0, hpa0, hsn0, hv0, hch0, htu0, hob⟩, ho0, hSt, ⟨ta, tso, tld, tti, hTx⟩, hPa, hsn, ⟨vd, vf, vb, vw, hVo⟩, ⟨ca, cb, cd, hCh⟩, ⟨lf, hTu⟩, hPl, hg, hkp, htn, hP5⟩ := hW
  obtain ⟨hB, hN, hKs, hRs⟩ := hok
  have hbz := hPl.1
  have hag : gAs (gZo o 39) σ σ := gAs.rf
  refine lv_aload_n hx hb dX7_does_0 rfl (lv_at hl 0 rfl) ?_
  refine g_get (C := RX7) (T := TX7) (N := 7) hx hb hts hown hK hP ho0 nX7_does_X7 rfl 0 (by decide) (by decide +kernel) rfl (v := .ref x) rfl dX7_does_1 ?_
  refine lv_iload_n hx hb dX7_does_4 rfl (lv_at hl 1 rfl) ?_
  refine g_runV (As := [.int a1]) (rest := []) (own := RX7) (C := RX4) (T := TX4) (N := 13) 1 hx hb hml hown hts hK hz hP hL hS hlo hl.1 (c_X4_hasSinger l x S a1 σ sz hSt) gX7_does_X4_hasSinger rfl rfl rfl (by decide +kernel) ⟨Nat.le_of_ble_eq_true rfl, Nat.le_of_ble_eq_true rfl⟩ hSt.c0 rfl rfl rfl (Nat.le_of_ble_eq_true rfl) dX7_does_5 ⟨Nat.le_of_ble_eq_true rfl, Nat.le_of_ble_eq_true rfl⟩ (g_ki0 (fun H locs hz hP hL hS => ?_))
  refine g_ifb_eq (tgt := 22) hx hb dX7_does_8 (by decide) (fun c8 => ?_) (fun c8 => ?_)
  · refine lv_iconst (v := (-1)) hx hb dX7_does_22 (by decide) ?_
    exact g_iret (z := sz) hx hb hr hlk hz hP hL hS dX7_does_23 (gxi_i ⟨by unfold t_does; rw [if_neg (by first | exact c8 | exact nb c8 | exact Ne.symm c8 | exact fun q => q c8 | exact fun q => q c8.symm | omega)], ⟨x, t, pa, sn, v, ch, tu, _, _, ⟨hx0, ht0, hpa0, hsn0, hv0, hch0, htu0, hob⟩, ho0, hSt, ⟨_, _, _, _, hTx⟩, hPa, hsn, ⟨_, _, _, _, hVo⟩, ⟨_, _, _, hCh⟩, ⟨_, hTu⟩, hPl, hg, hkp, htn, hP5⟩, rfl, hag⟩)
  · obtain ⟨ha1e, ha1l⟩ := tk_in c8 (by omega)
    refine lv_aload_n hx hb dX7_does_11 rfl (lv_at hl 0 rfl) ?_
    refine g_get (C := RX7) (T := TX7) (N := 7) hx hb hts hown hK hP ho0 nX7_does_X7 rfl 0 (by decide) (by decide +kernel) rfl (v := .ref x) rfl dX7_does_12 ?_
    refine lv_iload_n hx hb dX7_does_15 rfl (lv_at hl 2 rfl) ?_
    refine g_runV (As := [.int a2]) (rest := []) (own := RX7) (C := RX4) (T := TX4) (N := 13) 1 hx hb hml hown hts hK hz hP hL hS hlo hl.1 (c_X4_hasBeat l x S a2 σ sz hSt) gX7_does_X4_hasBeat rfl rfl rfl (by decide +kernel) ⟨Nat.le_of_ble_eq_true rfl, Nat.le_of_ble_eq_true rfl⟩ hSt.c0 rfl rfl rfl (Nat.le_of_ble_eq_true rfl) dX7_does_16 ⟨Nat.le_of_ble_eq_true rfl, Nat.le_of_ble_eq_true rfl⟩ (g_ki0 (fun H locs hz hP hL hS => ?_))
    refine g_ifb_ne (tgt := 24) hx hb dX7_does_19 (by decide) (fun c19 => ?_) (fun c19 => ?_)
    · obtain ⟨ha2e, ha2l⟩ := tk_in c19 (by omega)
      refine lv_aload_n hx hb dX7_does_24 rfl (lv_at hl 0 rfl) ?_
      refine g_get (C := RX7) (T := TX7) (N := 7) hx hb hts hown hK hP ho0 nX7_does_X7 rfl 4 (by decide) (by decide +kernel) rfl (v := .ref v) rfl dX7_does_25 ?_
      refine lv_aload_n hx hb dX7_does_28 rfl (lv_at hl 0 rfl) ?_
      refine g_get (C := RX7) (T := TX7) (N := 7) hx hb hts hown hK hP ho0 nX7_does_X7 rfl 0 (by decide) (by decide +kernel) rfl (v := .ref x) rfl dX7_does_29 ?_
      refine lv_iload_n hx hb dX7_does_32 rfl (lv_at hl 1 rfl) ?_
      refine g_top (y := (nI (tk a1))) ha1e ?_
      refine lv_aload_n hx hb dX7_does_33 rfl (lv_at hl 0 rfl) ?_
      refine g_get (C := RX7) (T := TX7) (N := 7) hx hb hts hown hK hP ho0 nX7_does_X7 rfl 0 (by decide) (by decide +kernel) rfl (v := .ref x) rfl dX7_does_34 ?_
      refine g_get (C := RX4) (T := TX4) (N := 13) hx hb hts hown hK hP hSt.c0 nX7_does_X4 rfl 8 (by decide) (by decide +kernel) rfl (v := .ref (x + 7)) rfl dX7_does_37 ?_
      refine lv_iload_n hx hb dX7_does_40 rfl (lv_at hl 1 rfl) ?_
      refine g_top (y := (nI (tk a1))) ha1e ?_
      refine g_runV (As := [.int (nI (tk a1))]) (rest := [.int (nI (tk a1)), .ref x, .ref v]) (own := RX7) (C := RX2) (T := TX2) (N := 1) 1 hx hb hml hown hts hK hz hP hL hS hlo hl.1 (c_X2_at l (x + 7) 12 (tk a1) (S 3) σ sz ⟨hSt.c7, hSt.c8⟩ (by omega) (by omega)) gX7_does_X2_at rfl rfl rfl (by decide +kernel) ⟨Nat.le_of_ble_eq_true rfl, Nat.le_of_ble_eq_true rfl⟩ hSt.c7 rfl rfl rfl (Nat.le_of_ble_eq_true rfl) dX7_does_41 ⟨Nat.le_of_ble_eq_true rfl, Nat.le_of_ble_eq_true rfl⟩ (g_ki0 (fun H locs hz hP hL hS => ?_))
      refine g_runV (As := [.ref x, .int (nI (tk a1)), .int ((S 3) (tk a1))]) (rest := []) (own := RX7) (C := RX6) (T := TX6) (N := 4) 3 hx hb hml hown hts hK hz hP hL hS hlo hl.1 (c_X6_follow l v x S (tk a1) (((S 3) (tk a1))) vd vf vb vw σ sz hSt hVo (by omega) (by omega) (by omega) (by omega)) gX7_does_X6_follow rfl rfl rfl (by decide +kernel) ⟨Nat.le_of_ble_eq_true rfl, Nat.le_of_ble_eq_true rfl⟩ hVo.c0 rfl rfl rfl (Nat.le_of_ble_eq_true rfl) dX7_does_44 ⟨Nat.le_of_ble_eq_true rfl, Nat.le_of_ble_eq_true rfl⟩ (g_kxv0 (fun τ_1 H locs z1 hz hp hP hL hS => ?_))
      obtain ⟨hz1, h_2n, h_2a⟩ := hp
      have hz := hz.trans hz1
      have hSt := hSt.fr (τ := τ_1) (fun q h1 h2 => h_2a q (fun h => by have h3 := h.1; have h4 := h.2; omega))
      have hTx := hTx.fr (τ := τ_1) (fun q h1 h2 => h_2a q (fun h => by have h3 := h.1; have h4 := h.2; omega))
      have hPa := hPa.fr (τ := τ_1) (fun q h1 h2 => h_2a q (fun h => by have h3 := h.1; have h4 := h.2; omega))
      have hCh := hCh.fr (τ := τ_1) (fun q h1 h2 => h_2a q (fun h => by have h3 := h.1; have h4 := h.2; omega))
      have hTu := hTu.fr (τ := τ_1) (fun q h1 h2 => h_2a q (fun h => by have h3 := h.1; have h4 := h.2; omega))
      have hPl := hPl.fr (τ := τ_1) (fun q h1 h2 => h_2a q (fun h => by have h3 := h.1; have h4 := h.2; omega))
      have hVo := h_2n
      have hag := hag.tr h_2a (fun q h => ⟨by have h3 := h.1; omega, by have h3 := h.2; omega⟩)
      refine lv_aload_n hx hb dX7_does_47 rfl (lv_at hl 0 rfl) ?_
      refine g_get (C := RX7) (T := TX7) (N := 7) hx hb hts hown hK hP ((h_2a _ (fun h => by have h3 := h.1; have h4 := h.2; omega)).trans ho0) nX7_does_X7 rfl 4 (by decide) (by decide +kernel) rfl (v := .ref v) rfl dX7_does_48 ?_
      refine g_get (C := RX6) (T := TX6) (N := 4) hx hb hts hown hK hP hVo.c0 nX7_does_X6 rfl 0 (by decide) (by decide +kernel) rfl (v := .ref (v + 1)) rfl dX7_does_51 ?_
      refine lv_iload_n hx hb dX7_does_54 rfl (lv_at hl 2 rfl) ?_
      refine g_top (y := (nI (tk a2))) ha2e ?_
      refine g_runV (As := [.int (nI (tk a2))]) (rest := []) (own := RX7) (C := RX2) (T := TX2) (N := 1) 1 hx hb hml hown hts hK hz hP hL hS hlo hl.1 (c_X2_at l (v + 1) 96 (tk a2) (cpyF vd (fun j => nI (dosF S (tk a1) (((S 3) (tk a1))) j)) (sB S)) τ_1 sz ⟨hVo.c1, hVo.c2⟩ (by omega) (by omega)) gX7_does_X2_at rfl rfl rfl (by decide +kernel) ⟨Nat.le_of_ble_eq_true rfl, Nat.le_of_ble_eq_true rfl⟩ hVo.c1 rfl rfl rfl (Nat.le_of_ble_eq_true rfl) dX7_does_55 ⟨Nat.le_of_ble_eq_true rfl, Nat.le_of_ble_eq_true rfl⟩ (g_ki0 (fun H locs hz hP hL hS => ?_))
      exact g_iret (z := sz) hx hb hr hlk hz hP hL hS dX7_does_58 (gxi_i ⟨by unfold t_does; rw [if_pos (by first | exact c8 | exact nb c8 | exact Ne.symm c8 | exact fun q => q c8 | exact fun q => q c8.symm | omega), if_pos (by first | exact c19 | exact nb c19 | exact Ne.symm c19 | exact fun q => q c19 | exact fun q => q c19.symm | omega)]; exact cpyF_lt ha2l, ⟨x, t, pa, sn, v, ch, tu, _, _, ⟨hx0, ht0, hpa0, hsn0, hv0, hch0, htu0, hob⟩, ((h_2a _ (fun h => by have h3 := h.1; have h4 := h.2; omega)).trans ho0), hSt, ⟨_, _, _, _, hTx⟩, hPa, ((h_2a _ (fun h => by have h3 := h.1; have h4 := h.2; omega)).trans hsn), ⟨_, _, _, _, hVo⟩, ⟨_, _, _, hCh⟩, ⟨_, hTu⟩, hPl, hg, hkp, htn, hP5⟩, rfl, hag⟩)
    · refine lv_iconst (v := (-1)) hx hb dX7_does_22 (by decide) ?_
      exact g_iret (z := sz) hx hb hr hlk hz hP hL hS dX7_does_23 (gxi_i ⟨by unfold t_does; rw [if_pos (by first | exact c8 | exact nb c8 | exact Ne.symm c8 | exact fun q => q c8 | exact fun q => q c8.symm | omega), if_neg (by first | exact c19 | exact nb c19 | exact Ne.symm c19 | exact fun q => q c19 | exact fun q => q c19.symm | omega)], ⟨x, t, pa, sn, v, ch, tu, _, _, ⟨hx0, ht0, hpa0, hsn0, hv0, hch0, htu0, hob⟩, ho0, hSt, ⟨_, _, _, _, hTx⟩, hPa, hsn, ⟨_, _, _, _, hVo⟩, ⟨_, _, _, hCh⟩, ⟨_, hTu⟩, hPl, hg, hkp, htn, hP5⟩, rfl, hag⟩)

theorem nX7_left_X4 : ∀ w ∈ wsX40, w ∈ wsX7_left := by decide +kernel
theorem nX7_left_X6 : ∀ w ∈ wsX60, w ∈ wsX7_left := by decide +kernel
theorem nX7_left_X7 : ∀ w ∈ wsX70, w ∈ wsX7_left := by decide +kernel
set_option maxHeartbeats 4000000 in
set_option maxRecDepth 100000 in
theorem c_X7_left (l : Launch) (o b : Nat) (S : sS) (tf : Nat → Int32) (tn P : Nat) (C : Nat → sS) (kp : Nat → Bool) (zp : Nat) (a1 a2 : Int32) (σ : gS) (sz : Nat) (hW : Wo σ o b S tf tn P C kp zp) (hok : okS S) : gM l yX7_left wsX7_left ({ frames := 5, cells := 0, slots := 0, locals := 116 } : Room) 0 0 [.ref o, .int a1, .int a2] σ sz (gxi (fun r τ n => r = t_left S a1 a2 ∧ Wo τ o b S tf tn P C kp zp ∧ n = sz ∧ gAs (gZo o 39) σ τ)) := by
  refine gM_of (cc := cX7_left) (maxL := 3) (ret := (some .int)) (by decide) rfl (Nat.le_of_ble_eq_true rfl) ?_
  intro D ka lo hL hlo p e s m below meth c hx hb hr hts hown hml hlk hnm hK H locs ls hz hP hS hl
  have hl : lv_has ls 3 [(0, .ref o), (1, .int a1), (2, .int a2)] := hl
  have hown : s.vm.findClass RX7 = some m.cls := hown
  obtain ⟨x, t, pa, sn, v, ch, tu, g, sg, ⟨hx0, ht0, hpa0, hsn0, hv0, hch0, htu0, hob⟩, ho0, hSt, ⟨ta, tso, tld, tti, hTx⟩, hPa, hsn, ⟨vd, vf, vb, vw, hVo⟩, ⟨ca, cb, cd, hCh⟩, ⟨lf, hTu⟩, hPl, hg, hkp, htn, hP5⟩ := hW
  obtain ⟨hB, hN, hKs, hRs⟩ := hok
  have hbz := hPl.1
  have hag : gAs (gZo o 39) σ σ := gAs.rf
  refine lv_aload_n hx hb dX7_left_0 rfl (lv_at hl 0 rfl) ?_
  refine g_get (C := RX7) (T := TX7) (N := 7) hx hb hts hown hK hP ho0 nX7_left_X7 rfl 0 (by decide) (by decide +kernel) rfl (v := .ref x) rfl dX7_left_1 ?_
  refine lv_iload_n hx hb dX7_left_4 rfl (lv_at hl 1 rfl) ?_
  refine g_runV (As := [.int a1]) (rest := []) (own := RX7) (C := RX4) (T := TX4) (N := 13) 1 hx hb hml hown hts hK hz hP hL hS hlo hl.1 (c_X4_hasSinger l x S a1 σ sz hSt) gX7_left_X4_hasSinger rfl rfl rfl (by decide +kernel) ⟨Nat.le_of_ble_eq_true rfl, Nat.le_of_ble_eq_true rfl⟩ hSt.c0 rfl rfl rfl (Nat.le_of_ble_eq_true rfl) dX7_left_5 ⟨Nat.le_of_ble_eq_true rfl, Nat.le_of_ble_eq_true rfl⟩ (g_ki0 (fun H locs hz hP hL hS => ?_))
  refine g_ifb_eq (tgt := 22) hx hb dX7_left_8 (by decide) (fun c8 => ?_) (fun c8 => ?_)
  · refine lv_iconst (v := (-1)) hx hb dX7_left_22 (by decide) ?_
    exact g_iret (z := sz) hx hb hr hlk hz hP hL hS dX7_left_23 (gxi_i ⟨by unfold t_left; rw [if_neg (by first | exact c8 | exact nb c8 | exact Ne.symm c8 | exact fun q => q c8 | exact fun q => q c8.symm | omega)], ⟨x, t, pa, sn, v, ch, tu, _, _, ⟨hx0, ht0, hpa0, hsn0, hv0, hch0, htu0, hob⟩, ho0, hSt, ⟨_, _, _, _, hTx⟩, hPa, hsn, ⟨_, _, _, _, hVo⟩, ⟨_, _, _, hCh⟩, ⟨_, hTu⟩, hPl, hg, hkp, htn, hP5⟩, rfl, hag⟩)
  · obtain ⟨ha1e, ha1l⟩ := tk_in c8 (by omega)
    refine lv_aload_n hx hb dX7_left_11 rfl (lv_at hl 0 rfl) ?_
    refine g_get (C := RX7) (T := TX7) (N := 7) hx hb hts hown hK hP ho0 nX7_left_X7 rfl 0 (by decide) (by decide +kernel) rfl (v := .ref x) rfl dX7_left_12 ?_
    refine lv_iload_n hx hb dX7_left_15 rfl (lv_at hl 2 rfl) ?_
    refine g_runV (As := [.int a2]) (rest := []) (own := RX7) (C := RX4) (T := TX4) (N := 13) 1 hx hb hml hown hts hK hz hP hL hS hlo hl.1 (c_X4_hasBeat l x S a2 σ sz hSt) gX7_left_X4_hasBeat rfl rfl rfl (by decide +kernel) ⟨Nat.le_of_ble_eq_true rfl, Nat.le_of_ble_eq_true rfl⟩ hSt.c0 rfl rfl rfl (Nat.le_of_ble_eq_true rfl) dX7_left_16 ⟨Nat.le_of_ble_eq_true rfl, Nat.le_of_ble_eq_true rfl⟩ (g_ki0 (fun H locs hz hP hL hS => ?_))
    refine g_ifb_ne (tgt := 24) hx hb dX7_left_19 (by decide) (fun c19 => ?_) (fun c19 => ?_)
    · obtain ⟨ha2e, ha2l⟩ := tk_in c19 (by omega)
      refine lv_aload_n hx hb dX7_left_24 rfl (lv_at hl 0 rfl) ?_
      refine g_get (C := RX7) (T := TX7) (N := 7) hx hb hts hown hK hP ho0 nX7_left_X7 rfl 4 (by decide) (by decide +kernel) rfl (v := .ref v) rfl dX7_left_25 ?_
      refine lv_aload_n hx hb dX7_left_28 rfl (lv_at hl 0 rfl) ?_
      refine g_get (C := RX7) (T := TX7) (N := 7) hx hb hts hown hK hP ho0 nX7_left_X7 rfl 0 (by decide) (by decide +kernel) rfl (v := .ref x) rfl dX7_left_29 ?_
      refine lv_iload_n hx hb dX7_left_32 rfl (lv_at hl 1 rfl) ?_
      refine g_top (y := (nI (tk a1))) ha1e ?_
      refine lv_aload_n hx hb dX7_left_33 rfl (lv_at hl 0 rfl) ?_
      refine g_get (C := RX7) (T := TX7) (N := 7) hx hb hts hown hK hP ho0 nX7_left_X7 rfl 0 (by decide) (by decide +kernel) rfl (v := .ref x) rfl dX7_left_34 ?_
      refine g_get (C := RX4) (T := TX4) (N := 13) hx hb hts hown hK hP hSt.c0 nX7_left_X4 rfl 8 (by decide) (by decide +kernel) rfl (v := .ref (x + 7)) rfl dX7_left_37 ?_
      refine lv_iload_n hx hb dX7_left_40 rfl (lv_at hl 1 rfl) ?_
      refine g_top (y := (nI (tk a1))) ha1e ?_
      refine g_runV (As := [.int (nI (tk a1))]) (rest := [.int (nI (tk a1)), .ref x, .ref v]) (own := RX7) (C := RX2) (T := TX2) (N := 1) 1 hx hb hml hown hts hK hz hP hL hS hlo hl.1 (c_X2_at l (x + 7) 12 (tk a1) (S 3) σ sz ⟨hSt.c7, hSt.c8⟩ (by omega) (by omega)) gX7_left_X2_at rfl rfl rfl (by decide +kernel) ⟨Nat.le_of_ble_eq_true rfl, Nat.le_of_ble_eq_true rfl⟩ hSt.c7 rfl rfl rfl (Nat.le_of_ble_eq_true rfl) dX7_left_41 ⟨Nat.le_of_ble_eq_true rfl, Nat.le_of_ble_eq_true rfl⟩ (g_ki0 (fun H locs hz hP hL hS => ?_))
      refine g_runV (As := [.ref x, .int (nI (tk a1)), .int ((S 3) (tk a1))]) (rest := []) (own := RX7) (C := RX6) (T := TX6) (N := 4) 3 hx hb hml hown hts hK hz hP hL hS hlo hl.1 (c_X6_follow l v x S (tk a1) (((S 3) (tk a1))) vd vf vb vw σ sz hSt hVo (by omega) (by omega) (by omega) (by omega)) gX7_left_X6_follow rfl rfl rfl (by decide +kernel) ⟨Nat.le_of_ble_eq_true rfl, Nat.le_of_ble_eq_true rfl⟩ hVo.c0 rfl rfl rfl (Nat.le_of_ble_eq_true rfl) dX7_left_44 ⟨Nat.le_of_ble_eq_true rfl, Nat.le_of_ble_eq_true rfl⟩ (g_kxv0 (fun τ_1 H locs z1 hz hp hP hL hS => ?_))
      obtain ⟨hz1, h_2n, h_2a⟩ := hp
      have hz := hz.trans hz1
      have hSt := hSt.fr (τ := τ_1) (fun q h1 h2 => h_2a q (fun h => by have h3 := h.1; have h4 := h.2; omega))
      have hTx := hTx.fr (τ := τ_1) (fun q h1 h2 => h_2a q (fun h => by have h3 := h.1; have h4 := h.2; omega))
      have hPa := hPa.fr (τ := τ_1) (fun q h1 h2 => h_2a q (fun h => by have h3 := h.1; have h4 := h.2; omega))
      have hCh := hCh.fr (τ := τ_1) (fun q h1 h2 => h_2a q (fun h => by have h3 := h.1; have h4 := h.2; omega))
      have hTu := hTu.fr (τ := τ_1) (fun q h1 h2 => h_2a q (fun h => by have h3 := h.1; have h4 := h.2; omega))
      have hPl := hPl.fr (τ := τ_1) (fun q h1 h2 => h_2a q (fun h => by have h3 := h.1; have h4 := h.2; omega))
      have hVo := h_2n
      have hag := hag.tr h_2a (fun q h => ⟨by have h3 := h.1; omega, by have h3 := h.2; omega⟩)
      refine lv_aload_n hx hb dX7_left_47 rfl (lv_at hl 0 rfl) ?_
      refine g_get (C := RX7) (T := TX7) (N := 7) hx hb hts hown hK hP ((h_2a _ (fun h => by have h3 := h.1; have h4 := h.2; omega)).trans ho0) nX7_left_X7 rfl 4 (by decide) (by decide +kernel) rfl (v := .ref v) rfl dX7_left_48 ?_
      refine g_get (C := RX6) (T := TX6) (N := 4) hx hb hts hown hK hP hVo.c0 nX7_left_X6 rfl 1 (by decide) (by decide +kernel) rfl (v := .ref (v + 3)) rfl dX7_left_51 ?_
      refine lv_iload_n hx hb dX7_left_54 rfl (lv_at hl 2 rfl) ?_
      refine g_top (y := (nI (tk a2))) ha2e ?_
      refine g_runV (As := [.int (nI (tk a2))]) (rest := []) (own := RX7) (C := RX2) (T := TX2) (N := 1) 1 hx hb hml hown hts hK hz hP hL hS hlo hl.1 (c_X2_at l (v + 3) 96 (tk a2) (cpyF vf (fun j => leftF S (tk a1) (((S 3) (tk a1))) (j + 1)) (sB S)) τ_1 sz ⟨hVo.c3, hVo.c4⟩ (by omega) (by omega)) gX7_left_X2_at rfl rfl rfl (by decide +kernel) ⟨Nat.le_of_ble_eq_true rfl, Nat.le_of_ble_eq_true rfl⟩ hVo.c3 rfl rfl rfl (Nat.le_of_ble_eq_true rfl) dX7_left_55 ⟨Nat.le_of_ble_eq_true rfl, Nat.le_of_ble_eq_true rfl⟩ (g_ki0 (fun H locs hz hP hL hS => ?_))
      exact g_iret (z := sz) hx hb hr hlk hz hP hL hS dX7_left_58 (gxi_i ⟨by unfold t_left; rw [if_pos (by first | exact c8 | exact nb c8 | exact Ne.symm c8 | exact fun q => q c8 | exact fun q => q c8.symm | omega), if_pos (by first | exact c19 | exact nb c19 | exact Ne.symm c19 | exact fun q => q c19 | exact fun q => q c19.symm | omega)]; exact cpyF_lt ha2l, ⟨x, t, pa, sn, v, ch, tu, _, _, ⟨hx0, ht0, hpa0, hsn0, hv0, hch0, htu0, hob⟩, ((h_2a _ (fun h => by have h3 := h.1; have h4 := h.2; omega)).trans ho0), hSt, ⟨_, _, _, _, hTx⟩, hPa, ((h_2a _ (fun h => by have h3 := h.1; have h4 := h.2; omega)).trans hsn), ⟨_, _, _, _, hVo⟩, ⟨_, _, _, hCh⟩, ⟨_, hTu⟩, hPl, hg, hkp, htn, hP5⟩, rfl, hag⟩)
    · refine lv_iconst (v := (-1)) hx hb dX7_left_22 (by decide) ?_
      exact g_iret (z := sz) hx hb hr hlk hz hP hL hS dX7_left_23 (gxi_i ⟨by unfold t_left; rw [if_pos (by first | exact c8 | exact nb c8 | exact Ne.symm c8 | exact fun q => q c8 | exact fun q => q c8.symm | omega), if_neg (by first | exact c19 | exact nb c19 | exact Ne.symm c19 | exact fun q => q c19 | exact fun q => q c19.symm | omega)], ⟨x, t, pa, sn, v, ch, tu, _, _, ⟨hx0, ht0, hpa0, hsn0, hv0, hch0, htu0, hob⟩, ho0, hSt, ⟨_, _, _, _, hTx⟩, hPa, hsn, ⟨_, _, _, _, hVo⟩, ⟨_, _, _, hCh⟩, ⟨_, hTu⟩, hPl, hg, hkp, htn, hP5⟩, rfl, hag⟩)

theorem nX7_solo_X4 : ∀ w ∈ wsX40, w ∈ wsX7_solo := by decide +kernel
theorem nX7_solo_X7 : ∀ w ∈ wsX70, w ∈ wsX7_solo := by decide +kernel
set_option maxHeartbeats 4000000 in
set_option maxRecDepth 100000 in
theorem c_X7_solo (l : Launch) (o b : Nat) (S : sS) (tf : Nat → Int32) (tn P : Nat) (C : Nat → sS) (kp : Nat → Bool) (zp : Nat) (a1 a2 : Int32) (σ : gS) (sz : Nat) (hW : Wo σ o b S tf tn P C kp zp) (hok : okS S) : gM l yX7_solo wsX7_solo ({ frames := 1, cells := 0, slots := 0, locals := 21 } : Room) 0 0 [.ref o, .int a1, .int a2] σ sz (gxi (fun r τ n => r = t_solo S a1 a2 ∧ Wo τ o b S tf tn P C kp zp ∧ n = sz ∧ gAs (gZo o 39) σ τ)) := by
  refine gM_of (cc := cX7_solo) (maxL := 3) (ret := (some .int)) (by decide) rfl (Nat.le_of_ble_eq_true rfl) ?_
  intro D ka lo hL hlo p e s m below meth c hx hb hr hts hown hml hlk hnm hK H locs ls hz hP hS hl
  have hl : lv_has ls 3 [(0, .ref o), (1, .int a1), (2, .int a2)] := hl
  have hown : s.vm.findClass RX7 = some m.cls := hown
  obtain ⟨x, t, pa, sn, v, ch, tu, g, sg, ⟨hx0, ht0, hpa0, hsn0, hv0, hch0, htu0, hob⟩, ho0, hSt, ⟨ta, tso, tld, tti, hTx⟩, hPa, hsn, ⟨vd, vf, vb, vw, hVo⟩, ⟨ca, cb, cd, hCh⟩, ⟨lf, hTu⟩, hPl, hg, hkp, htn, hP5⟩ := hW
  obtain ⟨hB, hN, hKs, hRs⟩ := hok
  have hbz := hPl.1
  have hag : gAs (gZo o 39) σ σ := gAs.rf
  refine lv_aload_n hx hb dX7_solo_0 rfl (lv_at hl 0 rfl) ?_
  refine g_get (C := RX7) (T := TX7) (N := 7) hx hb hts hown hK hP ho0 nX7_solo_X7 rfl 0 (by decide) (by decide +kernel) rfl (v := .ref x) rfl dX7_solo_1 ?_
  refine lv_iload_n hx hb dX7_solo_4 rfl (lv_at hl 1 rfl) ?_
  refine g_runV (As := [.int a1]) (rest := []) (own := RX7) (C := RX4) (T := TX4) (N := 13) 1 hx hb hml hown hts hK hz hP hL hS hlo hl.1 (c_X4_hasSolo l x S a1 σ sz hSt) gX7_solo_X4_hasSolo rfl rfl rfl (by decide +kernel) ⟨Nat.le_of_ble_eq_true rfl, Nat.le_of_ble_eq_true rfl⟩ hSt.c0 rfl rfl rfl (Nat.le_of_ble_eq_true rfl) dX7_solo_5 ⟨Nat.le_of_ble_eq_true rfl, Nat.le_of_ble_eq_true rfl⟩ (g_ki0 (fun H locs hz hP hL hS => ?_))
  refine g_ifb_ne (tgt := 13) hx hb dX7_solo_8 (by decide) (fun c8 => ?_) (fun c8 => ?_)
  · obtain ⟨ha1e, ha1l⟩ := tk_in c8 (by omega)
    refine lv_iload_n hx hb dX7_solo_13 rfl (lv_at hl 2 rfl) ?_
    rcases Decidable.em (inB a2 (nI 0) (nI 2) = true) with hin14 | hout14
    · obtain ⟨k14, hk1, hk2, hke⟩ := inB_of (by decide) (by decide) hin14
      rcases (show k14 = 0 ∨ k14 = 1 ∨ k14 = 2 by omega) with hk0 | hk0 | hk0
      · have hsw : a2 = nI 0 := by rw [hke, hk0]
        refine g_top (y := nI 0) hsw ?_
        refine lv_tableIn (tgt := 40) (off := 26) hx hb dX7_solo_14 (by decide) (by decide) (by decide) (by decide) ?_
        refine lv_aload_n hx hb dX7_solo_40 rfl (lv_at hl 0 rfl) ?_
        refine g_get (C := RX7) (T := TX7) (N := 7) hx hb hts hown hK hP ho0 nX7_solo_X7 rfl 0 (by decide) (by decide +kernel) rfl (v := .ref x) rfl dX7_solo_41 ?_
        refine g_get (C := RX4) (T := TX4) (N := 13) hx hb hts hown hK hP hSt.c0 nX7_solo_X4 rfl 10 (by decide) (by decide +kernel) rfl (v := .ref (x + 11)) rfl dX7_solo_44 ?_
        refine lv_iload_n hx hb dX7_solo_47 rfl (lv_at hl 1 rfl) ?_
        refine g_top (y := (nI (tk a1))) ha1e ?_
        refine g_runV (As := [.int (nI (tk a1))]) (rest := []) (own := RX7) (C := RX2) (T := TX2) (N := 1) 1 hx hb hml hown hts hK hz hP hL hS hlo hl.1 (c_X2_at l (x + 11) 8 (tk a1) (S 5) σ sz ⟨hSt.c11, hSt.c12⟩ (by omega) (by omega)) gX7_solo_X2_at rfl rfl rfl (by decide +kernel) ⟨Nat.le_of_ble_eq_true rfl, Nat.le_of_ble_eq_true rfl⟩ hSt.c11 rfl rfl rfl (Nat.le_of_ble_eq_true rfl) dX7_solo_48 ⟨Nat.le_of_ble_eq_true rfl, Nat.le_of_ble_eq_true rfl⟩ (g_ki0 (fun H locs hz hP hL hS => ?_))
        exact g_iret (z := sz) hx hb hr hlk hz hP hL hS dX7_solo_51 (gxi_i ⟨by unfold t_solo; rw [if_pos (by first | exact c8 | exact nb c8 | exact Ne.symm c8 | exact fun q => q c8 | exact fun q => q c8.symm | omega), if_pos hsw], ⟨x, t, pa, sn, v, ch, tu, _, _, ⟨hx0, ht0, hpa0, hsn0, hv0, hch0, htu0, hob⟩, ho0, hSt, ⟨_, _, _, _, hTx⟩, hPa, hsn, ⟨_, _, _, _, hVo⟩, ⟨_, _, _, hCh⟩, ⟨_, hTu⟩, hPl, hg, hkp, htn, hP5⟩, rfl, hag⟩)
      · have hsw : a2 = nI 1 := by rw [hke, hk0]
        refine g_top (y := nI 1) hsw ?_
        refine lv_tableIn (tgt := 52) (off := 38) hx hb dX7_solo_14 (by decide) (by decide) (by decide) (by decide) ?_
        refine lv_aload_n hx hb dX7_solo_52 rfl (lv_at hl 0 rfl) ?_
        refine g_get (C := RX7) (T := TX7) (N := 7) hx hb hts hown hK hP ho0 nX7_solo_X7 rfl 0 (by decide) (by decide +kernel) rfl (v := .ref x) rfl dX7_solo_53 ?_
        refine g_get (C := RX4) (T := TX4) (N := 13) hx hb hts hown hK hP hSt.c0 nX7_solo_X4 rfl 11 (by decide) (by decide +kernel) rfl (v := .ref (x + 13)) rfl dX7_solo_56 ?_
        refine lv_iload_n hx hb dX7_solo_59 rfl (lv_at hl 1 rfl) ?_
        refine g_top (y := (nI (tk a1))) ha1e ?_
        refine g_runV (As := [.int (nI (tk a1))]) (rest := []) (own := RX7) (C := RX2) (T := TX2) (N := 1) 1 hx hb hml hown hts hK hz hP hL hS hlo hl.1 (c_X2_at l (x + 13) 8 (tk a1) (S 6) σ sz ⟨hSt.c13, hSt.c14⟩ (by omega) (by omega)) gX7_solo_X2_at rfl rfl rfl (by decide +kernel) ⟨Nat.le_of_ble_eq_true rfl, Nat.le_of_ble_eq_true rfl⟩ hSt.c13 rfl rfl rfl (Nat.le_of_ble_eq_true rfl) dX7_solo_60 ⟨Nat.le_of_ble_eq_true rfl, Nat.le_of_ble_eq_true rfl⟩ (g_ki0 (fun H locs hz hP hL hS => ?_))
        exact g_iret (z := sz) hx hb hr hlk hz hP hL hS dX7_solo_63 (gxi_i ⟨by unfold t_solo; rw [if_pos (by first | exact c8 | exact nb c8 | exact Ne.symm c8 | exact fun q => q c8 | exact fun q => q c8.symm | omega), if_neg (by rw [hsw]; decide), if_pos hsw], ⟨x, t, pa, sn, v, ch, tu, _, _, ⟨hx0, ht0, hpa0, hsn0, hv0, hch0, htu0, hob⟩, ho0, hSt, ⟨_, _, _, _, hTx⟩, hPa, hsn, ⟨_, _, _, _, hVo⟩, ⟨_, _, _, hCh⟩, ⟨_, hTu⟩, hPl, hg, hkp, htn, hP5⟩, rfl, hag⟩)
      · have hsw : a2 = nI 2 := by rw [hke, hk0]
        refine g_top (y := nI 2) hsw ?_
        refine lv_tableIn (tgt := 64) (off := 50) hx hb dX7_solo_14 (by decide) (by decide) (by decide) (by decide) ?_
        refine lv_aload_n hx hb dX7_solo_64 rfl (lv_at hl 0 rfl) ?_
        refine g_get (C := RX7) (T := TX7) (N := 7) hx hb hts hown hK hP ho0 nX7_solo_X7 rfl 0 (by decide) (by decide +kernel) rfl (v := .ref x) rfl dX7_solo_65 ?_
        refine g_get (C := RX4) (T := TX4) (N := 13) hx hb hts hown hK hP hSt.c0 nX7_solo_X4 rfl 12 (by decide) (by decide +kernel) rfl (v := .ref (x + 15)) rfl dX7_solo_68 ?_
        refine lv_iload_n hx hb dX7_solo_71 rfl (lv_at hl 1 rfl) ?_
        refine g_top (y := (nI (tk a1))) ha1e ?_
        refine g_runV (As := [.int (nI (tk a1))]) (rest := []) (own := RX7) (C := RX2) (T := TX2) (N := 1) 1 hx hb hml hown hts hK hz hP hL hS hlo hl.1 (c_X2_at l (x + 15) 8 (tk a1) (S 7) σ sz ⟨hSt.c15, hSt.c16⟩ (by omega) (by omega)) gX7_solo_X2_at rfl rfl rfl (by decide +kernel) ⟨Nat.le_of_ble_eq_true rfl, Nat.le_of_ble_eq_true rfl⟩ hSt.c15 rfl rfl rfl (Nat.le_of_ble_eq_true rfl) dX7_solo_72 ⟨Nat.le_of_ble_eq_true rfl, Nat.le_of_ble_eq_true rfl⟩ (g_ki0 (fun H locs hz hP hL hS => ?_))
        exact g_iret (z := sz) hx hb hr hlk hz hP hL hS dX7_solo_75 (gxi_i ⟨by unfold t_solo; rw [if_pos (by first | exact c8 | exact nb c8 | exact Ne.symm c8 | exact fun q => q c8 | exact fun q => q c8.symm | omega), if_neg (by rw [hsw]; decide), if_neg (by rw [hsw]; decide), if_pos hsw], ⟨x, t, pa, sn, v, ch, tu, _, _, ⟨hx0, ht0, hpa0, hsn0, hv0, hch0, htu0, hob⟩, ho0, hSt, ⟨_, _, _, _, hTx⟩, hPa, hsn, ⟨_, _, _, _, hVo⟩, ⟨_, _, _, hCh⟩, ⟨_, hTu⟩, hPl, hg, hkp, htn, hP5⟩, rfl, hag⟩)
    · refine lv_tableOut (tgt := 76) hx hb dX7_solo_14 (ts_out (by decide) (by decide) hout14) (by decide) ?_
      refine lv_bipush (v := (-2)) hx hb dX7_solo_76 (by decide) ?_
      exact g_iret (z := sz) hx hb hr hlk hz hP hL hS dX7_solo_78 (gxi_i ⟨by unfold t_solo; rw [if_pos (by first | exact c8 | exact nb c8 | exact Ne.symm c8 | exact fun q => q c8 | exact fun q => q c8.symm | omega), if_neg (fun q => hout14 (by rw [q]; decide)), if_neg (fun q => hout14 (by rw [q]; decide)), if_neg (fun q => hout14 (by rw [q]; decide))], ⟨x, t, pa, sn, v, ch, tu, _, _, ⟨hx0, ht0, hpa0, hsn0, hv0, hch0, htu0, hob⟩, ho0, hSt, ⟨_, _, _, _, hTx⟩, hPa, hsn, ⟨_, _, _, _, hVo⟩, ⟨_, _, _, hCh⟩, ⟨_, hTu⟩, hPl, hg, hkp, htn, hP5⟩, rfl, hag⟩)
  · refine lv_iconst (v := (-1)) hx hb dX7_solo_11 (by decide) ?_
    exact g_iret (z := sz) hx hb hr hlk hz hP hL hS dX7_solo_12 (gxi_i ⟨by unfold t_solo; rw [if_neg (by first | exact c8 | exact nb c8 | exact Ne.symm c8 | exact fun q => q c8 | exact fun q => q c8.symm | omega)], ⟨x, t, pa, sn, v, ch, tu, _, _, ⟨hx0, ht0, hpa0, hsn0, hv0, hch0, htu0, hob⟩, ho0, hSt, ⟨_, _, _, _, hTx⟩, hPa, hsn, ⟨_, _, _, _, hVo⟩, ⟨_, _, _, hCh⟩, ⟨_, hTu⟩, hPl, hg, hkp, htn, hP5⟩, rfl, hag⟩)

theorem nX7_fault_X7 : ∀ w ∈ wsX70, w ∈ wsX7_fault := by decide +kernel
set_option maxHeartbeats 4000000 in
set_option maxRecDepth 100000 in
theorem c_X7_fault (l : Launch) (o b : Nat) (S : sS) (tf : Nat → Int32) (tn P : Nat) (C : Nat → sS) (kp : Nat → Bool) (zp : Nat) (a1 a2 : Int32) (cn : Nat → Nat → Nat) (σ : gS) (sz : Nat) (hW : Wo σ o b S tf tn P C kp zp) (hok : okS S) (hcn : ∀ b q, b < sB S → q < 4 → bcI (flS S b q) = nI (cn b q)) (hc : ∀ b q, cn b q ≤ 12) : gM l yX7_fault wsX7_fault ({ frames := 6, cells := 0, slots := 0, locals := 140 } : Room) 0 0 [.ref o, .int a1, .int a2] σ sz (gxi (fun r τ n => r = t_fault S cn a1 a2 ∧ Wo τ o b S tf tn P C kp zp ∧ n = sz ∧ gAs (gZo o 39) σ τ)) := by
  refine gM_of (cc := cX7_fault) (maxL := 3) (ret := (some .int)) (by decide) rfl (Nat.le_of_ble_eq_true rfl) ?_
  intro D ka lo hL hlo p e s m below meth c hx hb hr hts hown hml hlk hnm hK H locs ls hz hP hS hl
  have hl : lv_has ls 3 [(0, .ref o), (1, .int a1), (2, .int a2)] := hl
  have hown : s.vm.findClass RX7 = some m.cls := hown
  obtain ⟨x, t, pa, sn, v, ch, tu, g, sg, ⟨hx0, ht0, hpa0, hsn0, hv0, hch0, htu0, hob⟩, ho0, hSt, ⟨ta, tso, tld, tti, hTx⟩, hPa, hsn, ⟨vd, vf, vb, vw, hVo⟩, ⟨ca, cb, cd, hCh⟩, ⟨lf, hTu⟩, hPl, hg, hkp, htn, hP5⟩ := hW
  obtain ⟨hB, hN, hKs, hRs⟩ := hok
  have hbz := hPl.1
  have hag : gAs (gZo o 39) σ σ := gAs.rf
  refine lv_iload_n hx hb dX7_fault_0 rfl (lv_at hl 1 rfl) ?_
  refine lv_if_lt (tgt := 13) hx hb dX7_fault_1 (by decide) (fun c1 => ?_) (fun c1 => ?_)
  · refine lv_bipush (v := (-2)) hx hb dX7_fault_13 (by decide) ?_
    exact g_iret (z := sz) hx hb hr hlk hz hP hL hS dX7_fault_15 (gxi_i ⟨by unfold t_fault; rw [if_pos (by first | exact c1 | exact nb c1 | exact Ne.symm c1 | exact fun q => q c1 | exact fun q => q c1.symm | omega)], ⟨x, t, pa, sn, v, ch, tu, _, _, ⟨hx0, ht0, hpa0, hsn0, hv0, hch0, htu0, hob⟩, ho0, hSt, ⟨_, _, _, _, hTx⟩, hPa, hsn, ⟨_, _, _, _, hVo⟩, ⟨_, _, _, hCh⟩, ⟨_, hTu⟩, hPl, hg, hkp, htn, hP5⟩, rfl, hag⟩)
  · obtain ⟨q1, hq1, hq2⟩ := nI_of c1
    have ha1e : a1 = nI (tk a1) := by rw [hq2, tk_n hq1]
    have ha1l : tk a1 < 2147483648 := by rw [hq2, tk_n hq1]; exact hq1
    refine lv_iload_n hx hb dX7_fault_4 rfl (lv_at hl 2 rfl) ?_
    refine lv_iconst (v := (nI 0)) hx hb dX7_fault_5 (by decide) ?_
    refine lv_iconst (v := (nI 2)) hx hb dX7_fault_6 (by decide) ?_
    refine g_runS (As := [.int a2, .int (nI 0), .int (nI 2)]) (rest := []) (own := RX7) 3 hx hb hml hown hts hK hz hP hL hS hlo hl.1 (c_X7_isWithin l a2 ((nI 0)) ((nI 2)) σ sz) gX7_fault_X7_isWithin rfl rfl rfl (by decide +kernel) ⟨Nat.le_of_ble_eq_true rfl, Nat.le_of_ble_eq_true rfl⟩ rfl rfl (Nat.le_of_ble_eq_true rfl) dX7_fault_7 ⟨Nat.le_of_ble_eq_true rfl, Nat.le_of_ble_eq_true rfl⟩ (g_ki0 (fun H locs hz hP hL hS => ?_))
    refine g_ifb_ne (tgt := 16) hx hb dX7_fault_10 (by decide) (fun c10 => ?_) (fun c10 => ?_)
    · obtain ⟨ha2e, ha2l⟩ := tk_wi (by decide) (by decide) c10
      refine lv_aload_n hx hb dX7_fault_16 rfl (lv_at hl 0 rfl) ?_
      refine g_get (C := RX7) (T := TX7) (N := 7) hx hb hts hown hK hP ho0 nX7_fault_X7 rfl 5 (by decide) (by decide +kernel) rfl (v := .ref ch) rfl dX7_fault_17 ?_
      refine lv_aload_n hx hb dX7_fault_20 rfl (lv_at hl 0 rfl) ?_
      refine g_get (C := RX7) (T := TX7) (N := 7) hx hb hts hown hK hP ho0 nX7_fault_X7 rfl 0 (by decide) (by decide +kernel) rfl (v := .ref x) rfl dX7_fault_21 ?_
      refine lv_aload_n hx hb dX7_fault_24 rfl (lv_at hl 0 rfl) ?_
      refine g_get (C := RX7) (T := TX7) (N := 7) hx hb hts hown hK hP ho0 nX7_fault_X7 rfl 4 (by decide) (by decide +kernel) rfl (v := .ref v) rfl dX7_fault_25 ?_
      refine g_runV (As := [.ref x, .ref v]) (rest := []) (own := RX7) (C := RX0) (T := TX0) (N := 3) 2 hx hb hml hown hts hK hz hP hL hS hlo hl.1 (c_X0_follow l ch x v S ca cb cd vd vf vb vw σ sz hSt hCh hVo (by omega) (by omega) (by omega) (by omega) (by omega) (by omega)) gX7_fault_X0_follow rfl rfl rfl (by decide +kernel) ⟨Nat.le_of_ble_eq_true rfl, Nat.le_of_ble_eq_true rfl⟩ hCh.c0 rfl rfl rfl (Nat.le_of_ble_eq_true rfl) dX7_fault_28 ⟨Nat.le_of_ble_eq_true rfl, Nat.le_of_ble_eq_true rfl⟩ (g_kxv0 (fun τ_1 H locs z1 hz hp hP hL hS => ?_))
      obtain ⟨hz1, hc_1, ⟨d_1, f_1, b_1, w_1, hv_1⟩, ha_1⟩ := hp
      have hz := hz.trans hz1
      have hSt := hSt.fr (τ := τ_1) (fun q h1 h2 => ha_1 q (fun h => Or.elim h (fun h3 => by have h4 := h3.1; have h5 := h3.2; omega) (fun h3 => by have h4 := h3.1; have h5 := h3.2; omega)))
      have hTx := hTx.fr (τ := τ_1) (fun q h1 h2 => ha_1 q (fun h => Or.elim h (fun h3 => by have h4 := h3.1; have h5 := h3.2; omega) (fun h3 => by have h4 := h3.1; have h5 := h3.2; omega)))
      have hPa := hPa.fr (τ := τ_1) (fun q h1 h2 => ha_1 q (fun h => Or.elim h (fun h3 => by have h4 := h3.1; have h5 := h3.2; omega) (fun h3 => by have h4 := h3.1; have h5 := h3.2; omega)))
      have hTu := hTu.fr (τ := τ_1) (fun q h1 h2 => ha_1 q (fun h => Or.elim h (fun h3 => by have h4 := h3.1; have h5 := h3.2; omega) (fun h3 => by have h4 := h3.1; have h5 := h3.2; omega)))
      have hPl := hPl.fr (τ := τ_1) (fun q h1 h2 => ha_1 q (fun h => Or.elim h (fun h3 => by have h4 := h3.1; have h5 := h3.2; omega) (fun h3 => by have h4 := h3.1; have h5 := h3.2; omega)))
      have hCh := hc_1
      have hVo := hv_1
      have hag := hag.tr ha_1 (fun q h => Or.elim h (fun h3 => ⟨by have h4 := h3.1; omega, by have h4 := h3.2; omega⟩) (fun h3 => ⟨by have h4 := h3.1; omega, by have h4 := h3.2; omega⟩))
      refine lv_aload_n hx hb dX7_fault_31 rfl (lv_at hl 0 rfl) ?_
      refine g_get (C := RX7) (T := TX7) (N := 7) hx hb hts hown hK hP ((ha_1 _ (fun h => Or.elim h (fun h3 => by have h4 := h3.1; have h5 := h3.2; omega) (fun h3 => by have h4 := h3.1; have h5 := h3.2; omega))).trans ho0) nX7_fault_X7 rfl 5 (by decide) (by decide +kernel) rfl (v := .ref ch) rfl dX7_fault_32 ?_
      refine lv_aload_n hx hb dX7_fault_35 rfl (lv_at hl 0 rfl) ?_
      refine g_get (C := RX7) (T := TX7) (N := 7) hx hb hts hown hK hP ((ha_1 _ (fun h => Or.elim h (fun h3 => by have h4 := h3.1; have h5 := h3.2; omega) (fun h3 => by have h4 := h3.1; have h5 := h3.2; omega))).trans ho0) nX7_fault_X7 rfl 0 (by decide) (by decide +kernel) rfl (v := .ref x) rfl dX7_fault_36 ?_
      refine lv_iload_n hx hb dX7_fault_39 rfl (lv_at hl 1 rfl) ?_
      refine g_top (y := (nI (tk a1))) ha1e ?_
      refine lv_iload_n hx hb dX7_fault_40 rfl (lv_at hl 2 rfl) ?_
      refine g_top (y := (nI (tk a2))) ha2e ?_
      refine g_runV (As := [.ref x, .int (nI (tk a1)), .int (nI (tk a2))]) (rest := []) (own := RX7) (C := RX0) (T := TX0) (N := 3) 3 hx hb hml hown hts hK hz hP hL hS hlo hl.1 (c_X0_tellFault l ch x S (chR S 0) (chR S 1) (chR S 2) (tk a1) (tk a2) cn τ_1 sz hCh hSt (by omega) (by omega) (by omega) (by omega) hcn hc) gX7_fault_X0_tellFault rfl rfl rfl (by decide +kernel) ⟨Nat.le_of_ble_eq_true rfl, Nat.le_of_ble_eq_true rfl⟩ hCh.c0 rfl rfl rfl (Nat.le_of_ble_eq_true rfl) dX7_fault_41 ⟨Nat.le_of_ble_eq_true rfl, Nat.le_of_ble_eq_true rfl⟩ (g_ki0 (fun H locs hz hP hL hS => ?_))
      exact g_iret (z := sz) hx hb hr hlk hz hP hL hS dX7_fault_44 (gxi_i ⟨by unfold t_fault; rw [if_neg (by first | exact c1 | exact nb c1 | exact Ne.symm c1 | exact fun q => q c1 | exact fun q => q c1.symm | omega), if_pos (by first | exact c10 | exact nb c10 | exact Ne.symm c10 | exact fun q => q c10 | exact fun q => q c10.symm | omega)], ⟨x, t, pa, sn, v, ch, tu, _, _, ⟨hx0, ht0, hpa0, hsn0, hv0, hch0, htu0, hob⟩, ((ha_1 _ (fun h => Or.elim h (fun h3 => by have h4 := h3.1; have h5 := h3.2; omega) (fun h3 => by have h4 := h3.1; have h5 := h3.2; omega))).trans ho0), hSt, ⟨_, _, _, _, hTx⟩, hPa, ((ha_1 _ (fun h => Or.elim h (fun h3 => by have h4 := h3.1; have h5 := h3.2; omega) (fun h3 => by have h4 := h3.1; have h5 := h3.2; omega))).trans hsn), ⟨_, _, _, _, hVo⟩, ⟨_, _, _, hCh⟩, ⟨_, hTu⟩, hPl, hg, hkp, htn, hP5⟩, rfl, hag⟩)
    · refine lv_bipush (v := (-2)) hx hb dX7_fault_13 (by decide) ?_
      exact g_iret (z := sz) hx hb hr hlk hz hP hL hS dX7_fault_15 (gxi_i ⟨by unfold t_fault; rw [if_neg (by first | exact c1 | exact nb c1 | exact Ne.symm c1 | exact fun q => q c1 | exact fun q => q c1.symm | omega), if_neg (by first | exact c10 | exact nb c10 | exact Ne.symm c10 | exact fun q => q c10 | exact fun q => q c10.symm | omega)], ⟨x, t, pa, sn, v, ch, tu, _, _, ⟨hx0, ht0, hpa0, hsn0, hv0, hch0, htu0, hob⟩, ho0, hSt, ⟨_, _, _, _, hTx⟩, hPa, hsn, ⟨_, _, _, _, hVo⟩, ⟨_, _, _, hCh⟩, ⟨_, hTu⟩, hPl, hg, hkp, htn, hP5⟩, rfl, hag⟩)

theorem nX7_silentWithout_X7 : ∀ w ∈ wsX70, w ∈ wsX7_silentWithout := by decide +kernel
set_option maxHeartbeats 4000000 in
set_option maxRecDepth 100000 in
theorem c_X7_silentWithout (l : Launch) (o b : Nat) (S : sS) (tf : Nat → Int32) (tn P : Nat) (C : Nat → sS) (kp : Nat → Bool) (zp : Nat) (a1 : Int32) (σ : gS) (sz : Nat) (hW : Wo σ o b S tf tn P C kp zp) (hok : okS S) : gM l yX7_silentWithout wsX7_silentWithout ({ frames := 6, cells := 0, slots := 0, locals := 140 } : Room) 0 0 [.ref o, .int a1] σ sz (gxi (fun r τ n => r = t_silent S a1 ∧ Wo τ o b S tf tn P C kp zp ∧ n = sz ∧ gAs (gZo o 39) σ τ)) := by
  refine gM_of (cc := cX7_silentWithout) (maxL := 2) (ret := (some .int)) (by decide) rfl (Nat.le_of_ble_eq_true rfl) ?_
  intro D ka lo hL hlo p e s m below meth c hx hb hr hts hown hml hlk hnm hK H locs ls hz hP hS hl
  have hl : lv_has ls 2 [(0, .ref o), (1, .int a1)] := hl
  have hown : s.vm.findClass RX7 = some m.cls := hown
  obtain ⟨x, t, pa, sn, v, ch, tu, g, sg, ⟨hx0, ht0, hpa0, hsn0, hv0, hch0, htu0, hob⟩, ho0, hSt, ⟨ta, tso, tld, tti, hTx⟩, hPa, hsn, ⟨vd, vf, vb, vw, hVo⟩, ⟨ca, cb, cd, hCh⟩, ⟨lf, hTu⟩, hPl, hg, hkp, htn, hP5⟩ := hW
  obtain ⟨hB, hN, hKs, hRs⟩ := hok
  have hbz := hPl.1
  have hag : gAs (gZo o 39) σ σ := gAs.rf
  refine lv_aload_n hx hb dX7_silentWithout_0 rfl (lv_at hl 0 rfl) ?_
  refine g_get (C := RX7) (T := TX7) (N := 7) hx hb hts hown hK hP ho0 nX7_silentWithout_X7 rfl 0 (by decide) (by decide +kernel) rfl (v := .ref x) rfl dX7_silentWithout_1 ?_
  refine lv_iload_n hx hb dX7_silentWithout_4 rfl (lv_at hl 1 rfl) ?_
  refine g_runV (As := [.int a1]) (rest := []) (own := RX7) (C := RX4) (T := TX4) (N := 13) 1 hx hb hml hown hts hK hz hP hL hS hlo hl.1 (c_X4_hasSinger l x S a1 σ sz hSt) gX7_silentWithout_X4_hasSinger rfl rfl rfl (by decide +kernel) ⟨Nat.le_of_ble_eq_true rfl, Nat.le_of_ble_eq_true rfl⟩ hSt.c0 rfl rfl rfl (Nat.le_of_ble_eq_true rfl) dX7_silentWithout_5 ⟨Nat.le_of_ble_eq_true rfl, Nat.le_of_ble_eq_true rfl⟩ (g_ki0 (fun H locs hz hP hL hS => ?_))
  refine g_ifb_ne (tgt := 13) hx hb dX7_silentWithout_8 (by decide) (fun c8 => ?_) (fun c8 => ?_)
  · obtain ⟨ha1e, ha1l⟩ := tk_in c8 (by omega)
    refine lv_aload_n hx hb dX7_silentWithout_13 rfl (lv_at hl 0 rfl) ?_
    refine g_get (C := RX7) (T := TX7) (N := 7) hx hb hts hown hK hP ho0 nX7_silentWithout_X7 rfl 5 (by decide) (by decide +kernel) rfl (v := .ref ch) rfl dX7_silentWithout_14 ?_
    refine lv_aload_n hx hb dX7_silentWithout_17 rfl (lv_at hl 0 rfl) ?_
    refine g_get (C := RX7) (T := TX7) (N := 7) hx hb hts hown hK hP ho0 nX7_silentWithout_X7 rfl 0 (by decide) (by decide +kernel) rfl (v := .ref x) rfl dX7_silentWithout_18 ?_
    refine lv_aload_n hx hb dX7_silentWithout_21 rfl (lv_at hl 0 rfl) ?_
    refine g_get (C := RX7) (T := TX7) (N := 7) hx hb hts hown hK hP ho0 nX7_silentWithout_X7 rfl 4 (by decide) (by decide +kernel) rfl (v := .ref v) rfl dX7_silentWithout_22 ?_
    refine g_runV (As := [.ref x, .ref v]) (rest := []) (own := RX7) (C := RX0) (T := TX0) (N := 3) 2 hx hb hml hown hts hK hz hP hL hS hlo hl.1 (c_X0_follow l ch x v S ca cb cd vd vf vb vw σ sz hSt hCh hVo (by omega) (by omega) (by omega) (by omega) (by omega) (by omega)) gX7_silentWithout_X0_follow rfl rfl rfl (by decide +kernel) ⟨Nat.le_of_ble_eq_true rfl, Nat.le_of_ble_eq_true rfl⟩ hCh.c0 rfl rfl rfl (Nat.le_of_ble_eq_true rfl) dX7_silentWithout_25 ⟨Nat.le_of_ble_eq_true rfl, Nat.le_of_ble_eq_true rfl⟩ (g_kxv0 (fun τ_1 H locs z1 hz hp hP hL hS => ?_))
    obtain ⟨hz1, hc_1, ⟨d_1, f_1, b_1, w_1, hv_1⟩, ha_1⟩ := hp
    have hz := hz.trans hz1
    have hSt := hSt.fr (τ := τ_1) (fun q h1 h2 => ha_1 q (fun h => Or.elim h (fun h3 => by have h4 := h3.1; have h5 := h3.2; omega) (fun h3 => by have h4 := h3.1; have h5 := h3.2; omega)))
    have hTx := hTx.fr (τ := τ_1) (fun q h1 h2 => ha_1 q (fun h => Or.elim h (fun h3 => by have h4 := h3.1; have h5 := h3.2; omega) (fun h3 => by have h4 := h3.1; have h5 := h3.2; omega)))
    have hPa := hPa.fr (τ := τ_1) (fun q h1 h2 => ha_1 q (fun h => Or.elim h (fun h3 => by have h4 := h3.1; have h5 := h3.2; omega) (fun h3 => by have h4 := h3.1; have h5 := h3.2; omega)))
    have hTu := hTu.fr (τ := τ_1) (fun q h1 h2 => ha_1 q (fun h => Or.elim h (fun h3 => by have h4 := h3.1; have h5 := h3.2; omega) (fun h3 => by have h4 := h3.1; have h5 := h3.2; omega)))
    have hPl := hPl.fr (τ := τ_1) (fun q h1 h2 => ha_1 q (fun h => Or.elim h (fun h3 => by have h4 := h3.1; have h5 := h3.2; omega) (fun h3 => by have h4 := h3.1; have h5 := h3.2; omega)))
    have hCh := hc_1
    have hVo := hv_1
    have hag := hag.tr ha_1 (fun q h => Or.elim h (fun h3 => ⟨by have h4 := h3.1; omega, by have h4 := h3.2; omega⟩) (fun h3 => ⟨by have h4 := h3.1; omega, by have h4 := h3.2; omega⟩))
    refine lv_aload_n hx hb dX7_silentWithout_28 rfl (lv_at hl 0 rfl) ?_
    refine g_get (C := RX7) (T := TX7) (N := 7) hx hb hts hown hK hP ((ha_1 _ (fun h => Or.elim h (fun h3 => by have h4 := h3.1; have h5 := h3.2; omega) (fun h3 => by have h4 := h3.1; have h5 := h3.2; omega))).trans ho0) nX7_silentWithout_X7 rfl 5 (by decide) (by decide +kernel) rfl (v := .ref ch) rfl dX7_silentWithout_29 ?_
    refine lv_aload_n hx hb dX7_silentWithout_32 rfl (lv_at hl 0 rfl) ?_
    refine g_get (C := RX7) (T := TX7) (N := 7) hx hb hts hown hK hP ((ha_1 _ (fun h => Or.elim h (fun h3 => by have h4 := h3.1; have h5 := h3.2; omega) (fun h3 => by have h4 := h3.1; have h5 := h3.2; omega))).trans ho0) nX7_silentWithout_X7 rfl 0 (by decide) (by decide +kernel) rfl (v := .ref x) rfl dX7_silentWithout_33 ?_
    refine lv_iload_n hx hb dX7_silentWithout_36 rfl (lv_at hl 1 rfl) ?_
    refine g_top (y := (nI (tk a1))) ha1e ?_
    refine g_runV (As := [.ref x, .int (nI (tk a1))]) (rest := []) (own := RX7) (C := RX0) (T := TX0) (N := 3) 2 hx hb hml hown hts hK hz hP hL hS hlo hl.1 (c_X0_countSilentWithout l ch x S (chR S 0) (chR S 1) (chR S 2) (tk a1) τ_1 sz hCh hSt (by omega)) gX7_silentWithout_X0_countSilentWithout rfl rfl rfl (by decide +kernel) ⟨Nat.le_of_ble_eq_true rfl, Nat.le_of_ble_eq_true rfl⟩ hCh.c0 rfl rfl rfl (Nat.le_of_ble_eq_true rfl) dX7_silentWithout_37 ⟨Nat.le_of_ble_eq_true rfl, Nat.le_of_ble_eq_true rfl⟩ (g_ki0 (fun H locs hz hP hL hS => ?_))
    exact g_iret (z := sz) hx hb hr hlk hz hP hL hS dX7_silentWithout_40 (gxi_i ⟨by unfold t_silent; rw [if_pos (by first | exact c8 | exact nb c8 | exact Ne.symm c8 | exact fun q => q c8 | exact fun q => q c8.symm | omega)], ⟨x, t, pa, sn, v, ch, tu, _, _, ⟨hx0, ht0, hpa0, hsn0, hv0, hch0, htu0, hob⟩, ((ha_1 _ (fun h => Or.elim h (fun h3 => by have h4 := h3.1; have h5 := h3.2; omega) (fun h3 => by have h4 := h3.1; have h5 := h3.2; omega))).trans ho0), hSt, ⟨_, _, _, _, hTx⟩, hPa, ((ha_1 _ (fun h => Or.elim h (fun h3 => by have h4 := h3.1; have h5 := h3.2; omega) (fun h3 => by have h4 := h3.1; have h5 := h3.2; omega))).trans hsn), ⟨_, _, _, _, hVo⟩, ⟨_, _, _, hCh⟩, ⟨_, hTu⟩, hPl, hg, hkp, htn, hP5⟩, rfl, hag⟩)
  · refine lv_iconst (v := (-1)) hx hb dX7_silentWithout_11 (by decide) ?_
    exact g_iret (z := sz) hx hb hr hlk hz hP hL hS dX7_silentWithout_12 (gxi_i ⟨by unfold t_silent; rw [if_neg (by first | exact c8 | exact nb c8 | exact Ne.symm c8 | exact fun q => q c8 | exact fun q => q c8.symm | omega)], ⟨x, t, pa, sn, v, ch, tu, _, _, ⟨hx0, ht0, hpa0, hsn0, hv0, hch0, htu0, hob⟩, ho0, hSt, ⟨_, _, _, _, hTx⟩, hPa, hsn, ⟨_, _, _, _, hVo⟩, ⟨_, _, _, hCh⟩, ⟨_, hTu⟩, hPl, hg, hkp, htn, hP5⟩, rfl, hag⟩)

theorem br_s {S : sS} {i u : Nat} {r : Option Nat} (hu : u ≤ 40) (h : ¬ cntF (fun j => decide (nI (dosF S i (nI u) j) = nI 2)) (sB S) = 0) (hs : firstK (gasB S i) (41 - u) u = r) : firstK (gasB S i) (41 - (u + 1)) (u + 1) = r := by
  have hg : gasB S i u = false := decide_eq_false h
  rw [show 41 - u = (40 - u) + 1 by omega, firstK, if_neg (by rw [hg]; decide)] at hs
  rw [show 41 - (u + 1) = 40 - u by omega]
  exact hs
theorem br_e {S : sS} {i u : Nat} (hu : u ≤ 40) (h : cntF (fun j => decide (nI (dosF S i (nI u) j) = nI 2)) (sB S) = 0) : firstK (gasB S i) (41 - u) u = some u := by
  have hg : gasB S i u = true := decide_eq_true h
  rw [show 41 - u = (40 - u) + 1 by omega, firstK, if_pos hg]

theorem nX7_breathFor_X7 : ∀ w ∈ wsX70, w ∈ wsX7_breathFor := by decide +kernel
set_option maxHeartbeats 4000000 in
set_option maxRecDepth 100000 in
theorem c_X7_breathFor (l : Launch) (o b : Nat) (S : sS) (tf : Nat → Int32) (tn P : Nat) (C : Nat → sS) (kp : Nat → Bool) (zp : Nat) (a1 : Int32) (σ : gS) (sz : Nat) (hW : Wo σ o b S tf tn P C kp zp) (hok : okS S) : gM l yX7_breathFor wsX7_breathFor ({ frames := 5, cells := 0, slots := 0, locals := 116 } : Room) 0 0 [.ref o, .int a1] σ sz (gxi (fun r τ n => r = t_breath S a1 ∧ Wo τ o b S tf tn P C kp zp ∧ n = sz ∧ gAs (gZo o 39) σ τ)) := by
  refine gM_of (cc := cX7_breathFor) (maxL := 3) (ret := (some .int)) (by decide) rfl (Nat.le_of_ble_eq_true rfl) ?_
  intro D ka lo hL hlo p e s m below meth c hx hb hr hts hown hml hlk hnm hK H locs ls hz hP hS hl
  have hl : lv_has ls 3 [(0, .ref o), (1, .int a1)] := hl
  have hown : s.vm.findClass RX7 = some m.cls := hown
  obtain ⟨x, t, pa, sn, v, ch, tu, g, sg, ⟨hx0, ht0, hpa0, hsn0, hv0, hch0, htu0, hob⟩, ho0, hSt, ⟨ta, tso, tld, tti, hTx⟩, hPa, hsn, ⟨vd, vf, vb, vw, hVo⟩, ⟨ca, cb, cd, hCh⟩, ⟨lf, hTu⟩, hPl, hg, hkp, htn, hP5⟩ := hW
  obtain ⟨hB, hN, hKs, hRs⟩ := hok
  have hbz := hPl.1
  have hag : gAs (gZo o 39) σ σ := gAs.rf
  refine lv_aload_n hx hb dX7_breathFor_0 rfl (lv_at hl 0 rfl) ?_
  refine g_get (C := RX7) (T := TX7) (N := 7) hx hb hts hown hK hP ho0 nX7_breathFor_X7 rfl 0 (by decide) (by decide +kernel) rfl (v := .ref x) rfl dX7_breathFor_1 ?_
  refine lv_iload_n hx hb dX7_breathFor_4 rfl (lv_at hl 1 rfl) ?_
  refine g_runV (As := [.int a1]) (rest := []) (own := RX7) (C := RX4) (T := TX4) (N := 13) 1 hx hb hml hown hts hK hz hP hL hS hlo hl.1 (c_X4_hasSinger l x S a1 σ sz hSt) gX7_breathFor_X4_hasSinger rfl rfl rfl (by decide +kernel) ⟨Nat.le_of_ble_eq_true rfl, Nat.le_of_ble_eq_true rfl⟩ hSt.c0 rfl rfl rfl (Nat.le_of_ble_eq_true rfl) dX7_breathFor_5 ⟨Nat.le_of_ble_eq_true rfl, Nat.le_of_ble_eq_true rfl⟩ (g_ki0 (fun H locs hz hP hL hS => ?_))
  refine g_ifb_ne (tgt := 13) hx hb dX7_breathFor_8 (by decide) (fun c8 => ?_) (fun c8 => ?_)
  · obtain ⟨ha1e, ha1l⟩ := tk_in c8 (by omega)
    refine lv_iconst (v := (nI 4)) hx hb dX7_breathFor_13 (by decide) ?_
    refine lv_istore_n (lv' := [(2, .int (nI 4)), (0, .ref o), (1, .int a1)]) hx hb dX7_breathFor_14 rfl hl (by decide) rfl (fun ls hl => ?_)
    have lp : ∀ (fu_lp : Nat) (u : Nat), (4 ≤ u) → (u ≤ 41) → (firstK (gasB S (tk a1)) (41 - u) u = firstK (gasB S (tk a1)) 37 4) → (41 - u < fu_lp) → ∀ (υ : gS), (StAt υ x S) → (TxAt υ t tf tn ta tso tld tti) → (PaAt υ pa P g) → (∃ (d f : Nat → Int32) (b0 : Nat) (w0 : Int32), VoAt υ v d f b0 w0) → (ChAt υ ch ca cb cd) → (TuAt υ tu lf) → (PlAt υ b g sg C zp) → (υ o = gO 7 [.ref x, .ref t, .ref pa, .ref sn, .ref v, .ref ch, .ref tu]) → (υ sn = gR 2 sg) → (gAs (gZo o 39) σ υ) → gL lo υ → ∀ (H : Heap) (locs : List Loc) (ls : Array Slot), H.size = sz → gH D ka υ H → va_S (gA lo) s.heap H locs → lv_has ls 3 [(0, .ref o), (1, .int a1), (2, .int (nI u))] → W p l e ({ frames := 5, cells := 0, slots := 0, locals := 116 } : Room) s m ([.ref o, .int a1] : List Value).toArray below meth c H locs (0) (0) (MQ below (gQ D ka lo (gxi (fun r τ n => r = t_breath S a1 ∧ Wo τ o b S tf tn P C kp zp ∧ n = sz ∧ gAs (gZo o 39) σ τ))) ([.ref o, .int a1] : List Value).toArray s 0 0 (gA lo)) (F0 m 15 ls []) := by
      intro fu_lp
      induction fu_lp with
      | zero => intro u hu1 hu2 hs hm_lp; exact absurd hm_lp (Nat.not_lt_zero _)
      | succ fu_lp ih_lp =>
        intro u hu1 hu2 hs hm_lp υ hSt hTx hPa hVo hCh hTu hPl ho0 hsn hag hL H locs ls hz hP hS hl
        obtain ⟨d1, f1, b1, w1, hVo⟩ := hVo
        refine lv_iload_n hx hb dX7_breathFor_15 rfl (lv_at hl 2 rfl) ?_
        refine lv_bipush (v := (nI 40)) hx hb dX7_breathFor_16 (by decide) ?_
        refine g_icmp_gt (tgt := 53) (a := u) (b := 40) hx hb (by omega) (by omega) dX7_breathFor_18 (by decide) (fun c18 => ?_) (fun c18 => ?_)
        · refine lv_bipush (v := (-5)) hx hb dX7_breathFor_53 (by decide) ?_
          exact g_iret (z := sz) hx hb hr hlk hz hP hL hS dX7_breathFor_55 (gxi_i ⟨by rw [t_breath, if_pos c8, ← hs, show 41 - u = 0 by omega]; rfl, ⟨x, t, pa, sn, v, ch, tu, _, _, ⟨hx0, ht0, hpa0, hsn0, hv0, hch0, htu0, hob⟩, ho0, hSt, ⟨_, _, _, _, hTx⟩, hPa, hsn, ⟨_, _, _, _, hVo⟩, ⟨_, _, _, hCh⟩, ⟨_, hTu⟩, hPl, hg, hkp, htn, hP5⟩, rfl, hag⟩)
        · refine lv_aload_n hx hb dX7_breathFor_21 rfl (lv_at hl 0 rfl) ?_
          refine g_get (C := RX7) (T := TX7) (N := 7) hx hb hts hown hK hP ho0 nX7_breathFor_X7 rfl 4 (by decide) (by decide +kernel) rfl (v := .ref v) rfl dX7_breathFor_22 ?_
          refine lv_aload_n hx hb dX7_breathFor_25 rfl (lv_at hl 0 rfl) ?_
          refine g_get (C := RX7) (T := TX7) (N := 7) hx hb hts hown hK hP ho0 nX7_breathFor_X7 rfl 0 (by decide) (by decide +kernel) rfl (v := .ref x) rfl dX7_breathFor_26 ?_
          refine lv_iload_n hx hb dX7_breathFor_29 rfl (lv_at hl 1 rfl) ?_
          refine g_top (y := (nI (tk a1))) ha1e ?_
          refine lv_iload_n hx hb dX7_breathFor_30 rfl (lv_at hl 2 rfl) ?_
          refine g_runV (As := [.ref x, .int (nI (tk a1)), .int (nI u)]) (rest := []) (own := RX7) (C := RX6) (T := TX6) (N := 4) 3 hx hb hml hown hts hK hz hP hL hS hlo hl.1 (c_X6_follow l v x S (tk a1) ((nI u)) d1 f1 b1 w1 υ sz hSt hVo (by omega) (by omega) (by omega) (by omega)) gX7_breathFor_X6_follow rfl rfl rfl (by decide +kernel) ⟨Nat.le_of_ble_eq_true rfl, Nat.le_of_ble_eq_true rfl⟩ hVo.c0 rfl rfl rfl (Nat.le_of_ble_eq_true rfl) dX7_breathFor_31 ⟨Nat.le_of_ble_eq_true rfl, Nat.le_of_ble_eq_true rfl⟩ (g_kxv0 (fun τ_2 H locs z1 hz hp hP hL hS => ?_))
          obtain ⟨hz1, h_3n, h_3a⟩ := hp
          have hz := hz.trans hz1
          have hSt := hSt.fr (τ := τ_2) (fun q h1 h2 => h_3a q (fun h => by have h3 := h.1; have h4 := h.2; omega))
          have hTx := hTx.fr (τ := τ_2) (fun q h1 h2 => h_3a q (fun h => by have h3 := h.1; have h4 := h.2; omega))
          have hPa := hPa.fr (τ := τ_2) (fun q h1 h2 => h_3a q (fun h => by have h3 := h.1; have h4 := h.2; omega))
          have hCh := hCh.fr (τ := τ_2) (fun q h1 h2 => h_3a q (fun h => by have h3 := h.1; have h4 := h.2; omega))
          have hTu := hTu.fr (τ := τ_2) (fun q h1 h2 => h_3a q (fun h => by have h3 := h.1; have h4 := h.2; omega))
          have hPl := hPl.fr (τ := τ_2) (fun q h1 h2 => h_3a q (fun h => by have h3 := h.1; have h4 := h.2; omega))
          have hVo := h_3n
          have hag := hag.tr h_3a (fun q h => ⟨by have h3 := h.1; omega, by have h3 := h.2; omega⟩)
          refine lv_aload_n hx hb dX7_breathFor_34 rfl (lv_at hl 0 rfl) ?_
          refine g_get (C := RX7) (T := TX7) (N := 7) hx hb hts hown hK hP ((h_3a _ (fun h => by have h3 := h.1; have h4 := h.2; omega)).trans ho0) nX7_breathFor_X7 rfl 4 (by decide) (by decide +kernel) rfl (v := .ref v) rfl dX7_breathFor_35 ?_
          refine lv_iconst (v := (nI 2)) hx hb dX7_breathFor_38 (by decide) ?_
          refine g_runV (As := [.int (nI 2)]) (rest := []) (own := RX7) (C := RX6) (T := TX6) (N := 4) 1 hx hb hml hown hts hK hz hP hL hS hlo hl.1 (c_X6_countDoing l v (cpyF d1 (fun j => nI (dosF S (tk a1) ((nI u)) j)) (sB S)) (cpyF f1 (fun j => leftF S (tk a1) ((nI u)) (j + 1)) (sB S)) (sB S) ((nI u)) 2 τ_2 sz hVo (by omega)) gX7_breathFor_X6_countDoing rfl rfl rfl (by decide +kernel) ⟨Nat.le_of_ble_eq_true rfl, Nat.le_of_ble_eq_true rfl⟩ hVo.c0 rfl rfl rfl (Nat.le_of_ble_eq_true rfl) dX7_breathFor_39 ⟨Nat.le_of_ble_eq_true rfl, Nat.le_of_ble_eq_true rfl⟩ (g_ki0 (fun H locs hz hP hL hS => ?_))
          refine g_top (y := (nI (cntF (fun j => decide (nI (dosF S (tk a1) (nI u) j) = nI 2)) (sB S)))) (congrArg nI (cntF_c (fun j hj => by rw [cpyF_lt hj]))) ?_
          have hcl := cntF_le (fun j => decide (nI (dosF S (tk a1) (nI u) j) = nI 2)) (sB S)
          refine g_if_ne (tgt := 47) hx hb (by omega) dX7_breathFor_42 (by decide) (fun c42 => ?_) (fun c42 => ?_)
          · refine lv_iinc (v := (nI (u + 1))) (lv' := [(2, .int (nI (u + 1))), (0, .ref o), (1, .int a1)]) hx hb dX7_breathFor_47 hl (k := 2) rfl (g_inc u 1) (by decide) rfl (fun ls hl => ?_)
            refine lv_goto (tgt := 15) hx hb dX7_breathFor_50 (by decide) ?_
            exact ih_lp (u + 1) (by omega) (by omega) (br_s (by omega) (by omega) hs) (by omega) τ_2 hSt hTx hPa ⟨_, _, _, _, hVo⟩ hCh hTu hPl ((h_3a _ (fun h => by have h3 := h.1; have h4 := h.2; omega)).trans ho0) ((h_3a _ (fun h => by have h3 := h.1; have h4 := h.2; omega)).trans hsn) hag hL H locs ls hz hP hS (lv_sub hl [1, 2, 0] rfl)
          · refine lv_iload_n hx hb dX7_breathFor_45 rfl (lv_at hl 2 rfl) ?_
            exact g_iret (z := sz) hx hb hr hlk hz hP hL hS dX7_breathFor_46 (gxi_i ⟨by rw [t_breath, if_pos c8, ← hs, br_e (by omega) (by omega)]; rfl, ⟨x, t, pa, sn, v, ch, tu, _, _, ⟨hx0, ht0, hpa0, hsn0, hv0, hch0, htu0, hob⟩, ((h_3a _ (fun h => by have h3 := h.1; have h4 := h.2; omega)).trans ho0), hSt, ⟨_, _, _, _, hTx⟩, hPa, ((h_3a _ (fun h => by have h3 := h.1; have h4 := h.2; omega)).trans hsn), ⟨_, _, _, _, hVo⟩, ⟨_, _, _, hCh⟩, ⟨_, hTu⟩, hPl, hg, hkp, htn, hP5⟩, rfl, hag⟩)
    exact lp _ 4 (by omega) (by omega) rfl (Nat.lt_succ_self _) σ hSt hTx hPa ⟨_, _, _, _, hVo⟩ hCh hTu hPl ho0 hsn hag hL H locs ls hz hP hS (lv_sub hl [1, 2, 0] rfl)
  · refine lv_iconst (v := (-1)) hx hb dX7_breathFor_11 (by decide) ?_
    exact g_iret (z := sz) hx hb hr hlk hz hP hL hS dX7_breathFor_12 (gxi_i ⟨by rw [t_breath, if_neg (nb c8)], ⟨x, t, pa, sn, v, ch, tu, _, _, ⟨hx0, ht0, hpa0, hsn0, hv0, hch0, htu0, hob⟩, ho0, hSt, ⟨_, _, _, _, hTx⟩, hPa, hsn, ⟨_, _, _, _, hVo⟩, ⟨_, _, _, hCh⟩, ⟨_, hTu⟩, hPl, hg, hkp, htn, hP5⟩, rfl, hag⟩)

theorem nX7_count_X1 : ∀ w ∈ wsX10, w ∈ wsX7_count := by decide +kernel
theorem nX7_count_X3 : ∀ w ∈ wsX30, w ∈ wsX7_count := by decide +kernel
theorem nX7_count_X4 : ∀ w ∈ wsX40, w ∈ wsX7_count := by decide +kernel
theorem nX7_count_X7 : ∀ w ∈ wsX70, w ∈ wsX7_count := by decide +kernel
set_option maxHeartbeats 4000000 in
set_option maxRecDepth 100000 in
theorem c_X7_count (l : Launch) (o b : Nat) (S : sS) (tf : Nat → Int32) (tn P : Nat) (C : Nat → sS) (kp : Nat → Bool) (zp : Nat) (a1 : Int32) (σ : gS) (sz : Nat) (hW : Wo σ o b S tf tn P C kp zp) (hok : okS S) : gM l yX7_count wsX7_count ({ frames := 6, cells := 0, slots := 0, locals := 140 } : Room) 0 0 [.ref o, .int a1] σ sz (gxi (fun r τ n => r = t_count S tn P a1 ∧ Wo τ o b S tf tn P C kp zp ∧ n = sz ∧ gAs (gZo o 39) σ τ)) := by
  refine gM_of (cc := cX7_count) (maxL := 2) (ret := (some .int)) (by decide) rfl (Nat.le_of_ble_eq_true rfl) ?_
  intro D ka lo hL hlo p e s m below meth c hx hb hr hts hown hml hlk hnm hK H locs ls hz hP hS hl
  have hl : lv_has ls 2 [(0, .ref o), (1, .int a1)] := hl
  have hown : s.vm.findClass RX7 = some m.cls := hown
  obtain ⟨x, t, pa, sn, v, ch, tu, g, sg, ⟨hx0, ht0, hpa0, hsn0, hv0, hch0, htu0, hob⟩, ho0, hSt, ⟨ta, tso, tld, tti, hTx⟩, hPa, hsn, ⟨vd, vf, vb, vw, hVo⟩, ⟨ca, cb, cd, hCh⟩, ⟨lf, hTu⟩, hPl, hg, hkp, htn, hP5⟩ := hW
  obtain ⟨hB, hN, hKs, hRs⟩ := hok
  have hbz := hPl.1
  have hag : gAs (gZo o 39) σ σ := gAs.rf
  refine lv_iload_n hx hb dX7_count_0 rfl (lv_at hl 1 rfl) ?_
  rcases Decidable.em (inB a1 (nI 0) (nI 15) = true) with hin1 | hout1
  · obtain ⟨k1, hk1, hk2, hke⟩ := inB_of (by decide) (by decide) hin1
    rcases (show k1 = 0 ∨ k1 = 1 ∨ k1 = 2 ∨ k1 = 3 ∨ k1 = 4 ∨ k1 = 5 ∨ k1 = 6 ∨ k1 = 7 ∨ k1 = 8 ∨ k1 = 9 ∨ k1 = 10 ∨ k1 = 11 ∨ k1 = 12 ∨ k1 = 13 ∨ k1 = 14 ∨ k1 = 15 by omega) with hk0 | hk0 | hk0 | hk0 | hk0 | hk0 | hk0 | hk0 | hk0 | hk0 | hk0 | hk0 | hk0 | hk0 | hk0 | hk0
    · have hsw : a1 = nI 0 := by rw [hke, hk0]
      refine g_top (y := nI 0) hsw ?_
      refine lv_tableIn (tgt := 80) (off := 79) hx hb dX7_count_1 (by decide) (by decide) (by decide) (by decide) ?_
      refine lv_aload_n hx hb dX7_count_80 rfl (lv_at hl 0 rfl) ?_
      refine g_get (C := RX7) (T := TX7) (N := 7) hx hb hts hown hK hP ho0 nX7_count_X7 rfl 0 (by decide) (by decide +kernel) rfl (v := .ref x) rfl dX7_count_81 ?_
      refine g_get (C := RX4) (T := TX4) (N := 13) hx hb hts hown hK hP hSt.c0 nX7_count_X4 rfl 0 (by decide) (by decide +kernel) rfl (v := .int (nI (sB S))) rfl dX7_count_84 ?_
      exact g_iret (z := sz) hx hb hr hlk hz hP hL hS dX7_count_87 (gxi_i ⟨by unfold t_count; rw [if_pos hsw], ⟨x, t, pa, sn, v, ch, tu, _, _, ⟨hx0, ht0, hpa0, hsn0, hv0, hch0, htu0, hob⟩, ho0, hSt, ⟨_, _, _, _, hTx⟩, hPa, hsn, ⟨_, _, _, _, hVo⟩, ⟨_, _, _, hCh⟩, ⟨_, hTu⟩, hPl, hg, hkp, htn, hP5⟩, rfl, hag⟩)
    · have hsw : a1 = nI 1 := by rw [hke, hk0]
      refine g_top (y := nI 1) hsw ?_
      refine lv_tableIn (tgt := 88) (off := 87) hx hb dX7_count_1 (by decide) (by decide) (by decide) (by decide) ?_
      refine lv_aload_n hx hb dX7_count_88 rfl (lv_at hl 0 rfl) ?_
      refine g_get (C := RX7) (T := TX7) (N := 7) hx hb hts hown hK hP ho0 nX7_count_X7 rfl 0 (by decide) (by decide +kernel) rfl (v := .ref x) rfl dX7_count_89 ?_
      refine g_runV (As := []) (rest := []) (own := RX7) (C := RX4) (T := TX4) (N := 13) 0 hx hb hml hown hts hK hz hP hL hS hlo hl.1 (c_X4_countRests l x S  σ sz hSt (by omega)) gX7_count_X4_countRests rfl rfl rfl (by decide +kernel) ⟨Nat.le_of_ble_eq_true rfl, Nat.le_of_ble_eq_true rfl⟩ hSt.c0 rfl rfl rfl (Nat.le_of_ble_eq_true rfl) dX7_count_92 ⟨Nat.le_of_ble_eq_true rfl, Nat.le_of_ble_eq_true rfl⟩ (g_ki0 (fun H locs hz hP hL hS => ?_))
      exact g_iret (z := sz) hx hb hr hlk hz hP hL hS dX7_count_95 (gxi_i ⟨by unfold t_count; rw [if_neg (by rw [hsw]; decide), if_pos hsw], ⟨x, t, pa, sn, v, ch, tu, _, _, ⟨hx0, ht0, hpa0, hsn0, hv0, hch0, htu0, hob⟩, ho0, hSt, ⟨_, _, _, _, hTx⟩, hPa, hsn, ⟨_, _, _, _, hVo⟩, ⟨_, _, _, hCh⟩, ⟨_, hTu⟩, hPl, hg, hkp, htn, hP5⟩, rfl, hag⟩)
    · have hsw : a1 = nI 2 := by rw [hke, hk0]
      refine g_top (y := nI 2) hsw ?_
      refine lv_tableIn (tgt := 96) (off := 95) hx hb dX7_count_1 (by decide) (by decide) (by decide) (by decide) ?_
      refine lv_aload_n hx hb dX7_count_96 rfl (lv_at hl 0 rfl) ?_
      refine g_get (C := RX7) (T := TX7) (N := 7) hx hb hts hown hK hP ho0 nX7_count_X7 rfl 0 (by decide) (by decide +kernel) rfl (v := .ref x) rfl dX7_count_97 ?_
      refine g_runV (As := []) (rest := []) (own := RX7) (C := RX4) (T := TX4) (N := 13) 0 hx hb hml hown hts hK hz hP hL hS hlo hl.1 (c_X4_countSyllables l x S  σ sz hSt (by omega)) gX7_count_X4_countSyllables rfl rfl rfl (by decide +kernel) ⟨Nat.le_of_ble_eq_true rfl, Nat.le_of_ble_eq_true rfl⟩ hSt.c0 rfl rfl rfl (Nat.le_of_ble_eq_true rfl) dX7_count_100 ⟨Nat.le_of_ble_eq_true rfl, Nat.le_of_ble_eq_true rfl⟩ (g_ki0 (fun H locs hz hP hL hS => ?_))
      exact g_iret (z := sz) hx hb hr hlk hz hP hL hS dX7_count_103 (gxi_i ⟨by unfold t_count; rw [if_neg (by rw [hsw]; decide), if_neg (by rw [hsw]; decide), if_pos hsw], ⟨x, t, pa, sn, v, ch, tu, _, _, ⟨hx0, ht0, hpa0, hsn0, hv0, hch0, htu0, hob⟩, ho0, hSt, ⟨_, _, _, _, hTx⟩, hPa, hsn, ⟨_, _, _, _, hVo⟩, ⟨_, _, _, hCh⟩, ⟨_, hTu⟩, hPl, hg, hkp, htn, hP5⟩, rfl, hag⟩)
    · have hsw : a1 = nI 3 := by rw [hke, hk0]
      refine g_top (y := nI 3) hsw ?_
      refine lv_tableIn (tgt := 104) (off := 103) hx hb dX7_count_1 (by decide) (by decide) (by decide) (by decide) ?_
      refine lv_aload_n hx hb dX7_count_104 rfl (lv_at hl 0 rfl) ?_
      refine g_get (C := RX7) (T := TX7) (N := 7) hx hb hts hown hK hP ho0 nX7_count_X7 rfl 0 (by decide) (by decide +kernel) rfl (v := .ref x) rfl dX7_count_105 ?_
      refine g_get (C := RX4) (T := TX4) (N := 13) hx hb hts hown hK hP hSt.c0 nX7_count_X4 rfl 1 (by decide) (by decide +kernel) rfl (v := .int (nI (sN S))) rfl dX7_count_108 ?_
      exact g_iret (z := sz) hx hb hr hlk hz hP hL hS dX7_count_111 (gxi_i ⟨by unfold t_count; rw [if_neg (by rw [hsw]; decide), if_neg (by rw [hsw]; decide), if_neg (by rw [hsw]; decide), if_pos hsw], ⟨x, t, pa, sn, v, ch, tu, _, _, ⟨hx0, ht0, hpa0, hsn0, hv0, hch0, htu0, hob⟩, ho0, hSt, ⟨_, _, _, _, hTx⟩, hPa, hsn, ⟨_, _, _, _, hVo⟩, ⟨_, _, _, hCh⟩, ⟨_, hTu⟩, hPl, hg, hkp, htn, hP5⟩, rfl, hag⟩)
    · have hsw : a1 = nI 4 := by rw [hke, hk0]
      refine g_top (y := nI 4) hsw ?_
      refine lv_tableIn (tgt := 112) (off := 111) hx hb dX7_count_1 (by decide) (by decide) (by decide) (by decide) ?_
      refine lv_aload_n hx hb dX7_count_112 rfl (lv_at hl 0 rfl) ?_
      refine g_get (C := RX7) (T := TX7) (N := 7) hx hb hts hown hK hP ho0 nX7_count_X7 rfl 0 (by decide) (by decide +kernel) rfl (v := .ref x) rfl dX7_count_113 ?_
      refine g_runV (As := []) (rest := []) (own := RX7) (C := RX4) (T := TX4) (N := 13) 0 hx hb hml hown hts hK hz hP hL hS hlo hl.1 (c_X4_countPresent l x S  σ sz hSt) gX7_count_X4_countPresent rfl rfl rfl (by decide +kernel) ⟨Nat.le_of_ble_eq_true rfl, Nat.le_of_ble_eq_true rfl⟩ hSt.c0 rfl rfl rfl (Nat.le_of_ble_eq_true rfl) dX7_count_116 ⟨Nat.le_of_ble_eq_true rfl, Nat.le_of_ble_eq_true rfl⟩ (g_ki0 (fun H locs hz hP hL hS => ?_))
      exact g_iret (z := sz) hx hb hr hlk hz hP hL hS dX7_count_119 (gxi_i ⟨by unfold t_count; rw [if_neg (by rw [hsw]; decide), if_neg (by rw [hsw]; decide), if_neg (by rw [hsw]; decide), if_neg (by rw [hsw]; decide), if_pos hsw], ⟨x, t, pa, sn, v, ch, tu, _, _, ⟨hx0, ht0, hpa0, hsn0, hv0, hch0, htu0, hob⟩, ho0, hSt, ⟨_, _, _, _, hTx⟩, hPa, hsn, ⟨_, _, _, _, hVo⟩, ⟨_, _, _, hCh⟩, ⟨_, hTu⟩, hPl, hg, hkp, htn, hP5⟩, rfl, hag⟩)
    · have hsw : a1 = nI 5 := by rw [hke, hk0]
      refine g_top (y := nI 5) hsw ?_
      refine lv_tableIn (tgt := 120) (off := 119) hx hb dX7_count_1 (by decide) (by decide) (by decide) (by decide) ?_
      refine lv_aload_n hx hb dX7_count_120 rfl (lv_at hl 0 rfl) ?_
      refine g_get (C := RX7) (T := TX7) (N := 7) hx hb hts hown hK hP ho0 nX7_count_X7 rfl 0 (by decide) (by decide +kernel) rfl (v := .ref x) rfl dX7_count_121 ?_
      refine g_get (C := RX4) (T := TX4) (N := 13) hx hb hts hown hK hP hSt.c0 nX7_count_X4 rfl 3 (by decide) (by decide +kernel) rfl (v := .int (nI (sK S))) rfl dX7_count_124 ?_
      exact g_iret (z := sz) hx hb hr hlk hz hP hL hS dX7_count_127 (gxi_i ⟨by unfold t_count; rw [if_neg (by rw [hsw]; decide), if_neg (by rw [hsw]; decide), if_neg (by rw [hsw]; decide), if_neg (by rw [hsw]; decide), if_neg (by rw [hsw]; decide), if_pos hsw], ⟨x, t, pa, sn, v, ch, tu, _, _, ⟨hx0, ht0, hpa0, hsn0, hv0, hch0, htu0, hob⟩, ho0, hSt, ⟨_, _, _, _, hTx⟩, hPa, hsn, ⟨_, _, _, _, hVo⟩, ⟨_, _, _, hCh⟩, ⟨_, hTu⟩, hPl, hg, hkp, htn, hP5⟩, rfl, hag⟩)
    · have hsw : a1 = nI 6 := by rw [hke, hk0]
      refine g_top (y := nI 6) hsw ?_
      refine lv_tableIn (tgt := 128) (off := 127) hx hb dX7_count_1 (by decide) (by decide) (by decide) (by decide) ?_
      refine lv_aload_n hx hb dX7_count_128 rfl (lv_at hl 0 rfl) ?_
      refine g_get (C := RX7) (T := TX7) (N := 7) hx hb hts hown hK hP ho0 nX7_count_X7 rfl 0 (by decide) (by decide +kernel) rfl (v := .ref x) rfl dX7_count_129 ?_
      refine g_runV (As := []) (rest := []) (own := RX7) (C := RX4) (T := TX4) (N := 13) 0 hx hb hml hown hts hK hz hP hL hS hlo hl.1 (c_X4_countMarks l x S  σ sz hSt (by omega)) gX7_count_X4_countMarks rfl rfl rfl (by decide +kernel) ⟨Nat.le_of_ble_eq_true rfl, Nat.le_of_ble_eq_true rfl⟩ hSt.c0 rfl rfl rfl (Nat.le_of_ble_eq_true rfl) dX7_count_132 ⟨Nat.le_of_ble_eq_true rfl, Nat.le_of_ble_eq_true rfl⟩ (g_ki0 (fun H locs hz hP hL hS => ?_))
      exact g_iret (z := sz) hx hb hr hlk hz hP hL hS dX7_count_135 (gxi_i ⟨by unfold t_count; rw [if_neg (by rw [hsw]; decide), if_neg (by rw [hsw]; decide), if_neg (by rw [hsw]; decide), if_neg (by rw [hsw]; decide), if_neg (by rw [hsw]; decide), if_neg (by rw [hsw]; decide), if_pos hsw], ⟨x, t, pa, sn, v, ch, tu, _, _, ⟨hx0, ht0, hpa0, hsn0, hv0, hch0, htu0, hob⟩, ho0, hSt, ⟨_, _, _, _, hTx⟩, hPa, hsn, ⟨_, _, _, _, hVo⟩, ⟨_, _, _, hCh⟩, ⟨_, hTu⟩, hPl, hg, hkp, htn, hP5⟩, rfl, hag⟩)
    · have hsw : a1 = nI 7 := by rw [hke, hk0]
      refine g_top (y := nI 7) hsw ?_
      refine lv_tableIn (tgt := 136) (off := 135) hx hb dX7_count_1 (by decide) (by decide) (by decide) (by decide) ?_
      refine lv_aload_n hx hb dX7_count_136 rfl (lv_at hl 0 rfl) ?_
      refine g_get (C := RX7) (T := TX7) (N := 7) hx hb hts hown hK hP ho0 nX7_count_X7 rfl 5 (by decide) (by decide +kernel) rfl (v := .ref ch) rfl dX7_count_137 ?_
      refine lv_aload_n hx hb dX7_count_140 rfl (lv_at hl 0 rfl) ?_
      refine g_get (C := RX7) (T := TX7) (N := 7) hx hb hts hown hK hP ho0 nX7_count_X7 rfl 0 (by decide) (by decide +kernel) rfl (v := .ref x) rfl dX7_count_141 ?_
      refine lv_aload_n hx hb dX7_count_144 rfl (lv_at hl 0 rfl) ?_
      refine g_get (C := RX7) (T := TX7) (N := 7) hx hb hts hown hK hP ho0 nX7_count_X7 rfl 4 (by decide) (by decide +kernel) rfl (v := .ref v) rfl dX7_count_145 ?_
      refine g_runV (As := [.ref x, .ref v]) (rest := []) (own := RX7) (C := RX0) (T := TX0) (N := 3) 2 hx hb hml hown hts hK hz hP hL hS hlo hl.1 (c_X0_follow l ch x v S ca cb cd vd vf vb vw σ sz hSt hCh hVo (by omega) (by omega) (by omega) (by omega) (by omega) (by omega)) gX7_count_X0_follow rfl rfl rfl (by decide +kernel) ⟨Nat.le_of_ble_eq_true rfl, Nat.le_of_ble_eq_true rfl⟩ hCh.c0 rfl rfl rfl (Nat.le_of_ble_eq_true rfl) dX7_count_148 ⟨Nat.le_of_ble_eq_true rfl, Nat.le_of_ble_eq_true rfl⟩ (g_kxv0 (fun τ_1 H locs z1 hz hp hP hL hS => ?_))
      obtain ⟨hz1, hc_1, ⟨d_1, f_1, b_1, w_1, hv_1⟩, ha_1⟩ := hp
      have hz := hz.trans hz1
      have hSt := hSt.fr (τ := τ_1) (fun q h1 h2 => ha_1 q (fun h => Or.elim h (fun h3 => by have h4 := h3.1; have h5 := h3.2; omega) (fun h3 => by have h4 := h3.1; have h5 := h3.2; omega)))
      have hTx := hTx.fr (τ := τ_1) (fun q h1 h2 => ha_1 q (fun h => Or.elim h (fun h3 => by have h4 := h3.1; have h5 := h3.2; omega) (fun h3 => by have h4 := h3.1; have h5 := h3.2; omega)))
      have hPa := hPa.fr (τ := τ_1) (fun q h1 h2 => ha_1 q (fun h => Or.elim h (fun h3 => by have h4 := h3.1; have h5 := h3.2; omega) (fun h3 => by have h4 := h3.1; have h5 := h3.2; omega)))
      have hTu := hTu.fr (τ := τ_1) (fun q h1 h2 => ha_1 q (fun h => Or.elim h (fun h3 => by have h4 := h3.1; have h5 := h3.2; omega) (fun h3 => by have h4 := h3.1; have h5 := h3.2; omega)))
      have hPl := hPl.fr (τ := τ_1) (fun q h1 h2 => ha_1 q (fun h => Or.elim h (fun h3 => by have h4 := h3.1; have h5 := h3.2; omega) (fun h3 => by have h4 := h3.1; have h5 := h3.2; omega)))
      have hCh := hc_1
      have hVo := hv_1
      have hag := hag.tr ha_1 (fun q h => Or.elim h (fun h3 => ⟨by have h4 := h3.1; omega, by have h4 := h3.2; omega⟩) (fun h3 => ⟨by have h4 := h3.1; omega, by have h4 := h3.2; omega⟩))
      refine lv_aload_n hx hb dX7_count_151 rfl (lv_at hl 0 rfl) ?_
      refine g_get (C := RX7) (T := TX7) (N := 7) hx hb hts hown hK hP ((ha_1 _ (fun h => Or.elim h (fun h3 => by have h4 := h3.1; have h5 := h3.2; omega) (fun h3 => by have h4 := h3.1; have h5 := h3.2; omega))).trans ho0) nX7_count_X7 rfl 5 (by decide) (by decide +kernel) rfl (v := .ref ch) rfl dX7_count_152 ?_
      refine lv_aload_n hx hb dX7_count_155 rfl (lv_at hl 0 rfl) ?_
      refine g_get (C := RX7) (T := TX7) (N := 7) hx hb hts hown hK hP ((ha_1 _ (fun h => Or.elim h (fun h3 => by have h4 := h3.1; have h5 := h3.2; omega) (fun h3 => by have h4 := h3.1; have h5 := h3.2; omega))).trans ho0) nX7_count_X7 rfl 0 (by decide) (by decide +kernel) rfl (v := .ref x) rfl dX7_count_156 ?_
      refine lv_iconst (v := (nI 0)) hx hb dX7_count_159 (by decide) ?_
      refine lv_iconst (v := (nI 3)) hx hb dX7_count_160 (by decide) ?_
      refine g_runV (As := [.ref x, .int (nI 0), .int (nI 3)]) (rest := []) (own := RX7) (C := RX0) (T := TX0) (N := 3) 3 hx hb hml hown hts hK hz hP hL hS hlo hl.1 (c_X0_countFaults l ch x S (chR S 0) (chR S 1) (chR S 2) 0 3 τ_1 sz hCh hSt (by omega) (by omega) (by omega) (by omega)) gX7_count_X0_countFaults rfl rfl rfl (by decide +kernel) ⟨Nat.le_of_ble_eq_true rfl, Nat.le_of_ble_eq_true rfl⟩ hCh.c0 rfl rfl rfl (Nat.le_of_ble_eq_true rfl) dX7_count_161 ⟨Nat.le_of_ble_eq_true rfl, Nat.le_of_ble_eq_true rfl⟩ (g_ki0 (fun H locs hz hP hL hS => ?_))
      exact g_iret (z := sz) hx hb hr hlk hz hP hL hS dX7_count_164 (gxi_i ⟨by unfold t_count; rw [if_neg (by rw [hsw]; decide), if_neg (by rw [hsw]; decide), if_neg (by rw [hsw]; decide), if_neg (by rw [hsw]; decide), if_neg (by rw [hsw]; decide), if_neg (by rw [hsw]; decide), if_neg (by rw [hsw]; decide), if_pos hsw], ⟨x, t, pa, sn, v, ch, tu, _, _, ⟨hx0, ht0, hpa0, hsn0, hv0, hch0, htu0, hob⟩, ((ha_1 _ (fun h => Or.elim h (fun h3 => by have h4 := h3.1; have h5 := h3.2; omega) (fun h3 => by have h4 := h3.1; have h5 := h3.2; omega))).trans ho0), hSt, ⟨_, _, _, _, hTx⟩, hPa, ((ha_1 _ (fun h => Or.elim h (fun h3 => by have h4 := h3.1; have h5 := h3.2; omega) (fun h3 => by have h4 := h3.1; have h5 := h3.2; omega))).trans hsn), ⟨_, _, _, _, hVo⟩, ⟨_, _, _, hCh⟩, ⟨_, hTu⟩, hPl, hg, hkp, htn, hP5⟩, rfl, hag⟩)
    · have hsw : a1 = nI 8 := by rw [hke, hk0]
      refine g_top (y := nI 8) hsw ?_
      refine lv_tableIn (tgt := 165) (off := 164) hx hb dX7_count_1 (by decide) (by decide) (by decide) (by decide) ?_
      refine lv_aload_n hx hb dX7_count_165 rfl (lv_at hl 0 rfl) ?_
      refine g_get (C := RX7) (T := TX7) (N := 7) hx hb hts hown hK hP ho0 nX7_count_X7 rfl 5 (by decide) (by decide +kernel) rfl (v := .ref ch) rfl dX7_count_166 ?_
      refine lv_aload_n hx hb dX7_count_169 rfl (lv_at hl 0 rfl) ?_
      refine g_get (C := RX7) (T := TX7) (N := 7) hx hb hts hown hK hP ho0 nX7_count_X7 rfl 0 (by decide) (by decide +kernel) rfl (v := .ref x) rfl dX7_count_170 ?_
      refine lv_aload_n hx hb dX7_count_173 rfl (lv_at hl 0 rfl) ?_
      refine g_get (C := RX7) (T := TX7) (N := 7) hx hb hts hown hK hP ho0 nX7_count_X7 rfl 4 (by decide) (by decide +kernel) rfl (v := .ref v) rfl dX7_count_174 ?_
      refine g_runV (As := [.ref x, .ref v]) (rest := []) (own := RX7) (C := RX0) (T := TX0) (N := 3) 2 hx hb hml hown hts hK hz hP hL hS hlo hl.1 (c_X0_follow l ch x v S ca cb cd vd vf vb vw σ sz hSt hCh hVo (by omega) (by omega) (by omega) (by omega) (by omega) (by omega)) gX7_count_X0_follow rfl rfl rfl (by decide +kernel) ⟨Nat.le_of_ble_eq_true rfl, Nat.le_of_ble_eq_true rfl⟩ hCh.c0 rfl rfl rfl (Nat.le_of_ble_eq_true rfl) dX7_count_177 ⟨Nat.le_of_ble_eq_true rfl, Nat.le_of_ble_eq_true rfl⟩ (g_kxv0 (fun τ_2 H locs z1 hz hp hP hL hS => ?_))
      obtain ⟨hz1, hc_2, ⟨d_2, f_2, b_2, w_2, hv_2⟩, ha_2⟩ := hp
      have hz := hz.trans hz1
      have hSt := hSt.fr (τ := τ_2) (fun q h1 h2 => ha_2 q (fun h => Or.elim h (fun h3 => by have h4 := h3.1; have h5 := h3.2; omega) (fun h3 => by have h4 := h3.1; have h5 := h3.2; omega)))
      have hTx := hTx.fr (τ := τ_2) (fun q h1 h2 => ha_2 q (fun h => Or.elim h (fun h3 => by have h4 := h3.1; have h5 := h3.2; omega) (fun h3 => by have h4 := h3.1; have h5 := h3.2; omega)))
      have hPa := hPa.fr (τ := τ_2) (fun q h1 h2 => ha_2 q (fun h => Or.elim h (fun h3 => by have h4 := h3.1; have h5 := h3.2; omega) (fun h3 => by have h4 := h3.1; have h5 := h3.2; omega)))
      have hTu := hTu.fr (τ := τ_2) (fun q h1 h2 => ha_2 q (fun h => Or.elim h (fun h3 => by have h4 := h3.1; have h5 := h3.2; omega) (fun h3 => by have h4 := h3.1; have h5 := h3.2; omega)))
      have hPl := hPl.fr (τ := τ_2) (fun q h1 h2 => ha_2 q (fun h => Or.elim h (fun h3 => by have h4 := h3.1; have h5 := h3.2; omega) (fun h3 => by have h4 := h3.1; have h5 := h3.2; omega)))
      have hCh := hc_2
      have hVo := hv_2
      have hag := hag.tr ha_2 (fun q h => Or.elim h (fun h3 => ⟨by have h4 := h3.1; omega, by have h4 := h3.2; omega⟩) (fun h3 => ⟨by have h4 := h3.1; omega, by have h4 := h3.2; omega⟩))
      refine lv_aload_n hx hb dX7_count_180 rfl (lv_at hl 0 rfl) ?_
      refine g_get (C := RX7) (T := TX7) (N := 7) hx hb hts hown hK hP ((ha_2 _ (fun h => Or.elim h (fun h3 => by have h4 := h3.1; have h5 := h3.2; omega) (fun h3 => by have h4 := h3.1; have h5 := h3.2; omega))).trans ho0) nX7_count_X7 rfl 5 (by decide) (by decide +kernel) rfl (v := .ref ch) rfl dX7_count_181 ?_
      refine lv_aload_n hx hb dX7_count_184 rfl (lv_at hl 0 rfl) ?_
      refine g_get (C := RX7) (T := TX7) (N := 7) hx hb hts hown hK hP ((ha_2 _ (fun h => Or.elim h (fun h3 => by have h4 := h3.1; have h5 := h3.2; omega) (fun h3 => by have h4 := h3.1; have h5 := h3.2; omega))).trans ho0) nX7_count_X7 rfl 0 (by decide) (by decide +kernel) rfl (v := .ref x) rfl dX7_count_185 ?_
      refine lv_iload_n hx hb dX7_count_188 rfl (lv_at hl 1 rfl) ?_
      refine g_top (y := (nI 8)) hsw ?_
      refine lv_bipush (v := (nI 8)) hx hb dX7_count_189 (by decide) ?_
      refine lv_isub hx hb dX7_count_191 ?_
      refine g_top (pk_sub (by omega : 8 ≤ 8)) ?_
      refine lv_iload_n hx hb dX7_count_192 rfl (lv_at hl 1 rfl) ?_
      refine g_top (y := (nI 8)) hsw ?_
      refine lv_bipush (v := (nI 8)) hx hb dX7_count_193 (by decide) ?_
      refine lv_isub hx hb dX7_count_195 ?_
      refine g_top (pk_sub (by omega : 8 ≤ 8)) ?_
      refine g_runV (As := [.ref x, .int (nI (8 - 8)), .int (nI (8 - 8))]) (rest := []) (own := RX7) (C := RX0) (T := TX0) (N := 3) 3 hx hb hml hown hts hK hz hP hL hS hlo hl.1 (c_X0_countFaults l ch x S (chR S 0) (chR S 1) (chR S 2) (8 - 8) (8 - 8) τ_2 sz hCh hSt (by omega) (by omega) (by omega) (by omega)) gX7_count_X0_countFaults rfl rfl rfl (by decide +kernel) ⟨Nat.le_of_ble_eq_true rfl, Nat.le_of_ble_eq_true rfl⟩ hCh.c0 rfl rfl rfl (Nat.le_of_ble_eq_true rfl) dX7_count_196 ⟨Nat.le_of_ble_eq_true rfl, Nat.le_of_ble_eq_true rfl⟩ (g_ki0 (fun H locs hz hP hL hS => ?_))
      exact g_iret (z := sz) hx hb hr hlk hz hP hL hS dX7_count_199 (gxi_i ⟨by unfold t_count; rw [if_neg (by rw [hsw]; decide), if_neg (by rw [hsw]; decide), if_neg (by rw [hsw]; decide), if_neg (by rw [hsw]; decide), if_neg (by rw [hsw]; decide), if_neg (by rw [hsw]; decide), if_neg (by rw [hsw]; decide), if_neg (by rw [hsw]; decide), if_pos hsw], ⟨x, t, pa, sn, v, ch, tu, _, _, ⟨hx0, ht0, hpa0, hsn0, hv0, hch0, htu0, hob⟩, ((ha_2 _ (fun h => Or.elim h (fun h3 => by have h4 := h3.1; have h5 := h3.2; omega) (fun h3 => by have h4 := h3.1; have h5 := h3.2; omega))).trans ho0), hSt, ⟨_, _, _, _, hTx⟩, hPa, ((ha_2 _ (fun h => Or.elim h (fun h3 => by have h4 := h3.1; have h5 := h3.2; omega) (fun h3 => by have h4 := h3.1; have h5 := h3.2; omega))).trans hsn), ⟨_, _, _, _, hVo⟩, ⟨_, _, _, hCh⟩, ⟨_, hTu⟩, hPl, hg, hkp, htn, hP5⟩, rfl, hag⟩)
    · have hsw : a1 = nI 9 := by rw [hke, hk0]
      refine g_top (y := nI 9) hsw ?_
      refine lv_tableIn (tgt := 165) (off := 164) hx hb dX7_count_1 (by decide) (by decide) (by decide) (by decide) ?_
      refine lv_aload_n hx hb dX7_count_165 rfl (lv_at hl 0 rfl) ?_
      refine g_get (C := RX7) (T := TX7) (N := 7) hx hb hts hown hK hP ho0 nX7_count_X7 rfl 5 (by decide) (by decide +kernel) rfl (v := .ref ch) rfl dX7_count_166 ?_
      refine lv_aload_n hx hb dX7_count_169 rfl (lv_at hl 0 rfl) ?_
      refine g_get (C := RX7) (T := TX7) (N := 7) hx hb hts hown hK hP ho0 nX7_count_X7 rfl 0 (by decide) (by decide +kernel) rfl (v := .ref x) rfl dX7_count_170 ?_
      refine lv_aload_n hx hb dX7_count_173 rfl (lv_at hl 0 rfl) ?_
      refine g_get (C := RX7) (T := TX7) (N := 7) hx hb hts hown hK hP ho0 nX7_count_X7 rfl 4 (by decide) (by decide +kernel) rfl (v := .ref v) rfl dX7_count_174 ?_
      refine g_runV (As := [.ref x, .ref v]) (rest := []) (own := RX7) (C := RX0) (T := TX0) (N := 3) 2 hx hb hml hown hts hK hz hP hL hS hlo hl.1 (c_X0_follow l ch x v S ca cb cd vd vf vb vw σ sz hSt hCh hVo (by omega) (by omega) (by omega) (by omega) (by omega) (by omega)) gX7_count_X0_follow rfl rfl rfl (by decide +kernel) ⟨Nat.le_of_ble_eq_true rfl, Nat.le_of_ble_eq_true rfl⟩ hCh.c0 rfl rfl rfl (Nat.le_of_ble_eq_true rfl) dX7_count_177 ⟨Nat.le_of_ble_eq_true rfl, Nat.le_of_ble_eq_true rfl⟩ (g_kxv0 (fun τ_3 H locs z1 hz hp hP hL hS => ?_))
      obtain ⟨hz1, hc_3, ⟨d_3, f_3, b_3, w_3, hv_3⟩, ha_3⟩ := hp
      have hz := hz.trans hz1
      have hSt := hSt.fr (τ := τ_3) (fun q h1 h2 => ha_3 q (fun h => Or.elim h (fun h3 => by have h4 := h3.1; have h5 := h3.2; omega) (fun h3 => by have h4 := h3.1; have h5 := h3.2; omega)))
      have hTx := hTx.fr (τ := τ_3) (fun q h1 h2 => ha_3 q (fun h => Or.elim h (fun h3 => by have h4 := h3.1; have h5 := h3.2; omega) (fun h3 => by have h4 := h3.1; have h5 := h3.2; omega)))
      have hPa := hPa.fr (τ := τ_3) (fun q h1 h2 => ha_3 q (fun h => Or.elim h (fun h3 => by have h4 := h3.1; have h5 := h3.2; omega) (fun h3 => by have h4 := h3.1; have h5 := h3.2; omega)))
      have hTu := hTu.fr (τ := τ_3) (fun q h1 h2 => ha_3 q (fun h => Or.elim h (fun h3 => by have h4 := h3.1; have h5 := h3.2; omega) (fun h3 => by have h4 := h3.1; have h5 := h3.2; omega)))
      have hPl := hPl.fr (τ := τ_3) (fun q h1 h2 => ha_3 q (fun h => Or.elim h (fun h3 => by have h4 := h3.1; have h5 := h3.2; omega) (fun h3 => by have h4 := h3.1; have h5 := h3.2; omega)))
      have hCh := hc_3
      have hVo := hv_3
      have hag := hag.tr ha_3 (fun q h => Or.elim h (fun h3 => ⟨by have h4 := h3.1; omega, by have h4 := h3.2; omega⟩) (fun h3 => ⟨by have h4 := h3.1; omega, by have h4 := h3.2; omega⟩))
      refine lv_aload_n hx hb dX7_count_180 rfl (lv_at hl 0 rfl) ?_
      refine g_get (C := RX7) (T := TX7) (N := 7) hx hb hts hown hK hP ((ha_3 _ (fun h => Or.elim h (fun h3 => by have h4 := h3.1; have h5 := h3.2; omega) (fun h3 => by have h4 := h3.1; have h5 := h3.2; omega))).trans ho0) nX7_count_X7 rfl 5 (by decide) (by decide +kernel) rfl (v := .ref ch) rfl dX7_count_181 ?_
      refine lv_aload_n hx hb dX7_count_184 rfl (lv_at hl 0 rfl) ?_
      refine g_get (C := RX7) (T := TX7) (N := 7) hx hb hts hown hK hP ((ha_3 _ (fun h => Or.elim h (fun h3 => by have h4 := h3.1; have h5 := h3.2; omega) (fun h3 => by have h4 := h3.1; have h5 := h3.2; omega))).trans ho0) nX7_count_X7 rfl 0 (by decide) (by decide +kernel) rfl (v := .ref x) rfl dX7_count_185 ?_
      refine lv_iload_n hx hb dX7_count_188 rfl (lv_at hl 1 rfl) ?_
      refine g_top (y := (nI 9)) hsw ?_
      refine lv_bipush (v := (nI 8)) hx hb dX7_count_189 (by decide) ?_
      refine lv_isub hx hb dX7_count_191 ?_
      refine g_top (pk_sub (by omega : 8 ≤ 9)) ?_
      refine lv_iload_n hx hb dX7_count_192 rfl (lv_at hl 1 rfl) ?_
      refine g_top (y := (nI 9)) hsw ?_
      refine lv_bipush (v := (nI 8)) hx hb dX7_count_193 (by decide) ?_
      refine lv_isub hx hb dX7_count_195 ?_
      refine g_top (pk_sub (by omega : 8 ≤ 9)) ?_
      refine g_runV (As := [.ref x, .int (nI (9 - 8)), .int (nI (9 - 8))]) (rest := []) (own := RX7) (C := RX0) (T := TX0) (N := 3) 3 hx hb hml hown hts hK hz hP hL hS hlo hl.1 (c_X0_countFaults l ch x S (chR S 0) (chR S 1) (chR S 2) (9 - 8) (9 - 8) τ_3 sz hCh hSt (by omega) (by omega) (by omega) (by omega)) gX7_count_X0_countFaults rfl rfl rfl (by decide +kernel) ⟨Nat.le_of_ble_eq_true rfl, Nat.le_of_ble_eq_true rfl⟩ hCh.c0 rfl rfl rfl (Nat.le_of_ble_eq_true rfl) dX7_count_196 ⟨Nat.le_of_ble_eq_true rfl, Nat.le_of_ble_eq_true rfl⟩ (g_ki0 (fun H locs hz hP hL hS => ?_))
      exact g_iret (z := sz) hx hb hr hlk hz hP hL hS dX7_count_199 (gxi_i ⟨by unfold t_count; rw [if_neg (by rw [hsw]; decide), if_neg (by rw [hsw]; decide), if_neg (by rw [hsw]; decide), if_neg (by rw [hsw]; decide), if_neg (by rw [hsw]; decide), if_neg (by rw [hsw]; decide), if_neg (by rw [hsw]; decide), if_neg (by rw [hsw]; decide), if_neg (by rw [hsw]; decide), if_pos hsw], ⟨x, t, pa, sn, v, ch, tu, _, _, ⟨hx0, ht0, hpa0, hsn0, hv0, hch0, htu0, hob⟩, ((ha_3 _ (fun h => Or.elim h (fun h3 => by have h4 := h3.1; have h5 := h3.2; omega) (fun h3 => by have h4 := h3.1; have h5 := h3.2; omega))).trans ho0), hSt, ⟨_, _, _, _, hTx⟩, hPa, ((ha_3 _ (fun h => Or.elim h (fun h3 => by have h4 := h3.1; have h5 := h3.2; omega) (fun h3 => by have h4 := h3.1; have h5 := h3.2; omega))).trans hsn), ⟨_, _, _, _, hVo⟩, ⟨_, _, _, hCh⟩, ⟨_, hTu⟩, hPl, hg, hkp, htn, hP5⟩, rfl, hag⟩)
    · have hsw : a1 = nI 10 := by rw [hke, hk0]
      refine g_top (y := nI 10) hsw ?_
      refine lv_tableIn (tgt := 165) (off := 164) hx hb dX7_count_1 (by decide) (by decide) (by decide) (by decide) ?_
      refine lv_aload_n hx hb dX7_count_165 rfl (lv_at hl 0 rfl) ?_
      refine g_get (C := RX7) (T := TX7) (N := 7) hx hb hts hown hK hP ho0 nX7_count_X7 rfl 5 (by decide) (by decide +kernel) rfl (v := .ref ch) rfl dX7_count_166 ?_
      refine lv_aload_n hx hb dX7_count_169 rfl (lv_at hl 0 rfl) ?_
      refine g_get (C := RX7) (T := TX7) (N := 7) hx hb hts hown hK hP ho0 nX7_count_X7 rfl 0 (by decide) (by decide +kernel) rfl (v := .ref x) rfl dX7_count_170 ?_
      refine lv_aload_n hx hb dX7_count_173 rfl (lv_at hl 0 rfl) ?_
      refine g_get (C := RX7) (T := TX7) (N := 7) hx hb hts hown hK hP ho0 nX7_count_X7 rfl 4 (by decide) (by decide +kernel) rfl (v := .ref v) rfl dX7_count_174 ?_
      refine g_runV (As := [.ref x, .ref v]) (rest := []) (own := RX7) (C := RX0) (T := TX0) (N := 3) 2 hx hb hml hown hts hK hz hP hL hS hlo hl.1 (c_X0_follow l ch x v S ca cb cd vd vf vb vw σ sz hSt hCh hVo (by omega) (by omega) (by omega) (by omega) (by omega) (by omega)) gX7_count_X0_follow rfl rfl rfl (by decide +kernel) ⟨Nat.le_of_ble_eq_true rfl, Nat.le_of_ble_eq_true rfl⟩ hCh.c0 rfl rfl rfl (Nat.le_of_ble_eq_true rfl) dX7_count_177 ⟨Nat.le_of_ble_eq_true rfl, Nat.le_of_ble_eq_true rfl⟩ (g_kxv0 (fun τ_4 H locs z1 hz hp hP hL hS => ?_))
      obtain ⟨hz1, hc_4, ⟨d_4, f_4, b_4, w_4, hv_4⟩, ha_4⟩ := hp
      have hz := hz.trans hz1
      have hSt := hSt.fr (τ := τ_4) (fun q h1 h2 => ha_4 q (fun h => Or.elim h (fun h3 => by have h4 := h3.1; have h5 := h3.2; omega) (fun h3 => by have h4 := h3.1; have h5 := h3.2; omega)))
      have hTx := hTx.fr (τ := τ_4) (fun q h1 h2 => ha_4 q (fun h => Or.elim h (fun h3 => by have h4 := h3.1; have h5 := h3.2; omega) (fun h3 => by have h4 := h3.1; have h5 := h3.2; omega)))
      have hPa := hPa.fr (τ := τ_4) (fun q h1 h2 => ha_4 q (fun h => Or.elim h (fun h3 => by have h4 := h3.1; have h5 := h3.2; omega) (fun h3 => by have h4 := h3.1; have h5 := h3.2; omega)))
      have hTu := hTu.fr (τ := τ_4) (fun q h1 h2 => ha_4 q (fun h => Or.elim h (fun h3 => by have h4 := h3.1; have h5 := h3.2; omega) (fun h3 => by have h4 := h3.1; have h5 := h3.2; omega)))
      have hPl := hPl.fr (τ := τ_4) (fun q h1 h2 => ha_4 q (fun h => Or.elim h (fun h3 => by have h4 := h3.1; have h5 := h3.2; omega) (fun h3 => by have h4 := h3.1; have h5 := h3.2; omega)))
      have hCh := hc_4
      have hVo := hv_4
      have hag := hag.tr ha_4 (fun q h => Or.elim h (fun h3 => ⟨by have h4 := h3.1; omega, by have h4 := h3.2; omega⟩) (fun h3 => ⟨by have h4 := h3.1; omega, by have h4 := h3.2; omega⟩))
      refine lv_aload_n hx hb dX7_count_180 rfl (lv_at hl 0 rfl) ?_
      refine g_get (C := RX7) (T := TX7) (N := 7) hx hb hts hown hK hP ((ha_4 _ (fun h => Or.elim h (fun h3 => by have h4 := h3.1; have h5 := h3.2; omega) (fun h3 => by have h4 := h3.1; have h5 := h3.2; omega))).trans ho0) nX7_count_X7 rfl 5 (by decide) (by decide +kernel) rfl (v := .ref ch) rfl dX7_count_181 ?_
      refine lv_aload_n hx hb dX7_count_184 rfl (lv_at hl 0 rfl) ?_
      refine g_get (C := RX7) (T := TX7) (N := 7) hx hb hts hown hK hP ((ha_4 _ (fun h => Or.elim h (fun h3 => by have h4 := h3.1; have h5 := h3.2; omega) (fun h3 => by have h4 := h3.1; have h5 := h3.2; omega))).trans ho0) nX7_count_X7 rfl 0 (by decide) (by decide +kernel) rfl (v := .ref x) rfl dX7_count_185 ?_
      refine lv_iload_n hx hb dX7_count_188 rfl (lv_at hl 1 rfl) ?_
      refine g_top (y := (nI 10)) hsw ?_
      refine lv_bipush (v := (nI 8)) hx hb dX7_count_189 (by decide) ?_
      refine lv_isub hx hb dX7_count_191 ?_
      refine g_top (pk_sub (by omega : 8 ≤ 10)) ?_
      refine lv_iload_n hx hb dX7_count_192 rfl (lv_at hl 1 rfl) ?_
      refine g_top (y := (nI 10)) hsw ?_
      refine lv_bipush (v := (nI 8)) hx hb dX7_count_193 (by decide) ?_
      refine lv_isub hx hb dX7_count_195 ?_
      refine g_top (pk_sub (by omega : 8 ≤ 10)) ?_
      refine g_runV (As := [.ref x, .int (nI (10 - 8)), .int (nI (10 - 8))]) (rest := []) (own := RX7) (C := RX0) (T := TX0) (N := 3) 3 hx hb hml hown hts hK hz hP hL hS hlo hl.1 (c_X0_countFaults l ch x S (chR S 0) (chR S 1) (chR S 2) (10 - 8) (10 - 8) τ_4 sz hCh hSt (by omega) (by omega) (by omega) (by omega)) gX7_count_X0_countFaults rfl rfl rfl (by decide +kernel) ⟨Nat.le_of_ble_eq_true rfl, Nat.le_of_ble_eq_true rfl⟩ hCh.c0 rfl rfl rfl (Nat.le_of_ble_eq_true rfl) dX7_count_196 ⟨Nat.le_of_ble_eq_true rfl, Nat.le_of_ble_eq_true rfl⟩ (g_ki0 (fun H locs hz hP hL hS => ?_))
      exact g_iret (z := sz) hx hb hr hlk hz hP hL hS dX7_count_199 (gxi_i ⟨by unfold t_count; rw [if_neg (by rw [hsw]; decide), if_neg (by rw [hsw]; decide), if_neg (by rw [hsw]; decide), if_neg (by rw [hsw]; decide), if_neg (by rw [hsw]; decide), if_neg (by rw [hsw]; decide), if_neg (by rw [hsw]; decide), if_neg (by rw [hsw]; decide), if_neg (by rw [hsw]; decide), if_neg (by rw [hsw]; decide), if_pos hsw], ⟨x, t, pa, sn, v, ch, tu, _, _, ⟨hx0, ht0, hpa0, hsn0, hv0, hch0, htu0, hob⟩, ((ha_4 _ (fun h => Or.elim h (fun h3 => by have h4 := h3.1; have h5 := h3.2; omega) (fun h3 => by have h4 := h3.1; have h5 := h3.2; omega))).trans ho0), hSt, ⟨_, _, _, _, hTx⟩, hPa, ((ha_4 _ (fun h => Or.elim h (fun h3 => by have h4 := h3.1; have h5 := h3.2; omega) (fun h3 => by have h4 := h3.1; have h5 := h3.2; omega))).trans hsn), ⟨_, _, _, _, hVo⟩, ⟨_, _, _, hCh⟩, ⟨_, hTu⟩, hPl, hg, hkp, htn, hP5⟩, rfl, hag⟩)
    · have hsw : a1 = nI 11 := by rw [hke, hk0]
      refine g_top (y := nI 11) hsw ?_
      refine lv_tableIn (tgt := 165) (off := 164) hx hb dX7_count_1 (by decide) (by decide) (by decide) (by decide) ?_
      refine lv_aload_n hx hb dX7_count_165 rfl (lv_at hl 0 rfl) ?_
      refine g_get (C := RX7) (T := TX7) (N := 7) hx hb hts hown hK hP ho0 nX7_count_X7 rfl 5 (by decide) (by decide +kernel) rfl (v := .ref ch) rfl dX7_count_166 ?_
      refine lv_aload_n hx hb dX7_count_169 rfl (lv_at hl 0 rfl) ?_
      refine g_get (C := RX7) (T := TX7) (N := 7) hx hb hts hown hK hP ho0 nX7_count_X7 rfl 0 (by decide) (by decide +kernel) rfl (v := .ref x) rfl dX7_count_170 ?_
      refine lv_aload_n hx hb dX7_count_173 rfl (lv_at hl 0 rfl) ?_
      refine g_get (C := RX7) (T := TX7) (N := 7) hx hb hts hown hK hP ho0 nX7_count_X7 rfl 4 (by decide) (by decide +kernel) rfl (v := .ref v) rfl dX7_count_174 ?_
      refine g_runV (As := [.ref x, .ref v]) (rest := []) (own := RX7) (C := RX0) (T := TX0) (N := 3) 2 hx hb hml hown hts hK hz hP hL hS hlo hl.1 (c_X0_follow l ch x v S ca cb cd vd vf vb vw σ sz hSt hCh hVo (by omega) (by omega) (by omega) (by omega) (by omega) (by omega)) gX7_count_X0_follow rfl rfl rfl (by decide +kernel) ⟨Nat.le_of_ble_eq_true rfl, Nat.le_of_ble_eq_true rfl⟩ hCh.c0 rfl rfl rfl (Nat.le_of_ble_eq_true rfl) dX7_count_177 ⟨Nat.le_of_ble_eq_true rfl, Nat.le_of_ble_eq_true rfl⟩ (g_kxv0 (fun τ_5 H locs z1 hz hp hP hL hS => ?_))
      obtain ⟨hz1, hc_5, ⟨d_5, f_5, b_5, w_5, hv_5⟩, ha_5⟩ := hp
      have hz := hz.trans hz1
      have hSt := hSt.fr (τ := τ_5) (fun q h1 h2 => ha_5 q (fun h => Or.elim h (fun h3 => by have h4 := h3.1; have h5 := h3.2; omega) (fun h3 => by have h4 := h3.1; have h5 := h3.2; omega)))
      have hTx := hTx.fr (τ := τ_5) (fun q h1 h2 => ha_5 q (fun h => Or.elim h (fun h3 => by have h4 := h3.1; have h5 := h3.2; omega) (fun h3 => by have h4 := h3.1; have h5 := h3.2; omega)))
      have hPa := hPa.fr (τ := τ_5) (fun q h1 h2 => ha_5 q (fun h => Or.elim h (fun h3 => by have h4 := h3.1; have h5 := h3.2; omega) (fun h3 => by have h4 := h3.1; have h5 := h3.2; omega)))
      have hTu := hTu.fr (τ := τ_5) (fun q h1 h2 => ha_5 q (fun h => Or.elim h (fun h3 => by have h4 := h3.1; have h5 := h3.2; omega) (fun h3 => by have h4 := h3.1; have h5 := h3.2; omega)))
      have hPl := hPl.fr (τ := τ_5) (fun q h1 h2 => ha_5 q (fun h => Or.elim h (fun h3 => by have h4 := h3.1; have h5 := h3.2; omega) (fun h3 => by have h4 := h3.1; have h5 := h3.2; omega)))
      have hCh := hc_5
      have hVo := hv_5
      have hag := hag.tr ha_5 (fun q h => Or.elim h (fun h3 => ⟨by have h4 := h3.1; omega, by have h4 := h3.2; omega⟩) (fun h3 => ⟨by have h4 := h3.1; omega, by have h4 := h3.2; omega⟩))
      refine lv_aload_n hx hb dX7_count_180 rfl (lv_at hl 0 rfl) ?_
      refine g_get (C := RX7) (T := TX7) (N := 7) hx hb hts hown hK hP ((ha_5 _ (fun h => Or.elim h (fun h3 => by have h4 := h3.1; have h5 := h3.2; omega) (fun h3 => by have h4 := h3.1; have h5 := h3.2; omega))).trans ho0) nX7_count_X7 rfl 5 (by decide) (by decide +kernel) rfl (v := .ref ch) rfl dX7_count_181 ?_
      refine lv_aload_n hx hb dX7_count_184 rfl (lv_at hl 0 rfl) ?_
      refine g_get (C := RX7) (T := TX7) (N := 7) hx hb hts hown hK hP ((ha_5 _ (fun h => Or.elim h (fun h3 => by have h4 := h3.1; have h5 := h3.2; omega) (fun h3 => by have h4 := h3.1; have h5 := h3.2; omega))).trans ho0) nX7_count_X7 rfl 0 (by decide) (by decide +kernel) rfl (v := .ref x) rfl dX7_count_185 ?_
      refine lv_iload_n hx hb dX7_count_188 rfl (lv_at hl 1 rfl) ?_
      refine g_top (y := (nI 11)) hsw ?_
      refine lv_bipush (v := (nI 8)) hx hb dX7_count_189 (by decide) ?_
      refine lv_isub hx hb dX7_count_191 ?_
      refine g_top (pk_sub (by omega : 8 ≤ 11)) ?_
      refine lv_iload_n hx hb dX7_count_192 rfl (lv_at hl 1 rfl) ?_
      refine g_top (y := (nI 11)) hsw ?_
      refine lv_bipush (v := (nI 8)) hx hb dX7_count_193 (by decide) ?_
      refine lv_isub hx hb dX7_count_195 ?_
      refine g_top (pk_sub (by omega : 8 ≤ 11)) ?_
      refine g_runV (As := [.ref x, .int (nI (11 - 8)), .int (nI (11 - 8))]) (rest := []) (own := RX7) (C := RX0) (T := TX0) (N := 3) 3 hx hb hml hown hts hK hz hP hL hS hlo hl.1 (c_X0_countFaults l ch x S (chR S 0) (chR S 1) (chR S 2) (11 - 8) (11 - 8) τ_5 sz hCh hSt (by omega) (by omega) (by omega) (by omega)) gX7_count_X0_countFaults rfl rfl rfl (by decide +kernel) ⟨Nat.le_of_ble_eq_true rfl, Nat.le_of_ble_eq_true rfl⟩ hCh.c0 rfl rfl rfl (Nat.le_of_ble_eq_true rfl) dX7_count_196 ⟨Nat.le_of_ble_eq_true rfl, Nat.le_of_ble_eq_true rfl⟩ (g_ki0 (fun H locs hz hP hL hS => ?_))
      exact g_iret (z := sz) hx hb hr hlk hz hP hL hS dX7_count_199 (gxi_i ⟨by unfold t_count; rw [if_neg (by rw [hsw]; decide), if_neg (by rw [hsw]; decide), if_neg (by rw [hsw]; decide), if_neg (by rw [hsw]; decide), if_neg (by rw [hsw]; decide), if_neg (by rw [hsw]; decide), if_neg (by rw [hsw]; decide), if_neg (by rw [hsw]; decide), if_neg (by rw [hsw]; decide), if_neg (by rw [hsw]; decide), if_neg (by rw [hsw]; decide), if_pos hsw], ⟨x, t, pa, sn, v, ch, tu, _, _, ⟨hx0, ht0, hpa0, hsn0, hv0, hch0, htu0, hob⟩, ((ha_5 _ (fun h => Or.elim h (fun h3 => by have h4 := h3.1; have h5 := h3.2; omega) (fun h3 => by have h4 := h3.1; have h5 := h3.2; omega))).trans ho0), hSt, ⟨_, _, _, _, hTx⟩, hPa, ((ha_5 _ (fun h => Or.elim h (fun h3 => by have h4 := h3.1; have h5 := h3.2; omega) (fun h3 => by have h4 := h3.1; have h5 := h3.2; omega))).trans hsn), ⟨_, _, _, _, hVo⟩, ⟨_, _, _, hCh⟩, ⟨_, hTu⟩, hPl, hg, hkp, htn, hP5⟩, rfl, hag⟩)
    · have hsw : a1 = nI 12 := by rw [hke, hk0]
      refine g_top (y := nI 12) hsw ?_
      refine lv_tableIn (tgt := 200) (off := 199) hx hb dX7_count_1 (by decide) (by decide) (by decide) (by decide) ?_
      refine lv_aload_n hx hb dX7_count_200 rfl (lv_at hl 0 rfl) ?_
      refine g_get (C := RX7) (T := TX7) (N := 7) hx hb hts hown hK hP ho0 nX7_count_X7 rfl 0 (by decide) (by decide +kernel) rfl (v := .ref x) rfl dX7_count_201 ?_
      refine g_get (C := RX4) (T := TX4) (N := 13) hx hb hts hown hK hP hSt.c0 nX7_count_X4 rfl 4 (by decide) (by decide +kernel) rfl (v := .int (nI (sR S))) rfl dX7_count_204 ?_
      exact g_iret (z := sz) hx hb hr hlk hz hP hL hS dX7_count_207 (gxi_i ⟨by unfold t_count; rw [if_neg (by rw [hsw]; decide), if_neg (by rw [hsw]; decide), if_neg (by rw [hsw]; decide), if_neg (by rw [hsw]; decide), if_neg (by rw [hsw]; decide), if_neg (by rw [hsw]; decide), if_neg (by rw [hsw]; decide), if_neg (by rw [hsw]; decide), if_neg (by rw [hsw]; decide), if_neg (by rw [hsw]; decide), if_neg (by rw [hsw]; decide), if_neg (by rw [hsw]; decide), if_pos hsw], ⟨x, t, pa, sn, v, ch, tu, _, _, ⟨hx0, ht0, hpa0, hsn0, hv0, hch0, htu0, hob⟩, ho0, hSt, ⟨_, _, _, _, hTx⟩, hPa, hsn, ⟨_, _, _, _, hVo⟩, ⟨_, _, _, hCh⟩, ⟨_, hTu⟩, hPl, hg, hkp, htn, hP5⟩, rfl, hag⟩)
    · have hsw : a1 = nI 13 := by rw [hke, hk0]
      refine g_top (y := nI 13) hsw ?_
      refine lv_tableIn (tgt := 208) (off := 207) hx hb dX7_count_1 (by decide) (by decide) (by decide) (by decide) ?_
      refine lv_aload_n hx hb dX7_count_208 rfl (lv_at hl 0 rfl) ?_
      refine g_get (C := RX7) (T := TX7) (N := 7) hx hb hts hown hK hP ho0 nX7_count_X7 rfl 0 (by decide) (by decide +kernel) rfl (v := .ref x) rfl dX7_count_209 ?_
      refine g_runV (As := []) (rest := []) (own := RX7) (C := RX4) (T := TX4) (N := 13) 0 hx hb hml hown hts hK hz hP hL hS hlo hl.1 (c_X4_longestSyllable l x S  σ sz hSt (by omega)) gX7_count_X4_longestSyllable rfl rfl rfl (by decide +kernel) ⟨Nat.le_of_ble_eq_true rfl, Nat.le_of_ble_eq_true rfl⟩ hSt.c0 rfl rfl rfl (Nat.le_of_ble_eq_true rfl) dX7_count_212 ⟨Nat.le_of_ble_eq_true rfl, Nat.le_of_ble_eq_true rfl⟩ (g_ki0 (fun H locs hz hP hL hS => ?_))
      exact g_iret (z := sz) hx hb hr hlk hz hP hL hS dX7_count_215 (gxi_i ⟨by unfold t_count; rw [if_neg (by rw [hsw]; decide), if_neg (by rw [hsw]; decide), if_neg (by rw [hsw]; decide), if_neg (by rw [hsw]; decide), if_neg (by rw [hsw]; decide), if_neg (by rw [hsw]; decide), if_neg (by rw [hsw]; decide), if_neg (by rw [hsw]; decide), if_neg (by rw [hsw]; decide), if_neg (by rw [hsw]; decide), if_neg (by rw [hsw]; decide), if_neg (by rw [hsw]; decide), if_neg (by rw [hsw]; decide), if_pos hsw], ⟨x, t, pa, sn, v, ch, tu, _, _, ⟨hx0, ht0, hpa0, hsn0, hv0, hch0, htu0, hob⟩, ho0, hSt, ⟨_, _, _, _, hTx⟩, hPa, hsn, ⟨_, _, _, _, hVo⟩, ⟨_, _, _, hCh⟩, ⟨_, hTu⟩, hPl, hg, hkp, htn, hP5⟩, rfl, hag⟩)
    · have hsw : a1 = nI 14 := by rw [hke, hk0]
      refine g_top (y := nI 14) hsw ?_
      refine lv_tableIn (tgt := 216) (off := 215) hx hb dX7_count_1 (by decide) (by decide) (by decide) (by decide) ?_
      refine lv_aload_n hx hb dX7_count_216 rfl (lv_at hl 0 rfl) ?_
      refine g_get (C := RX7) (T := TX7) (N := 7) hx hb hts hown hK hP ho0 nX7_count_X7 rfl 2 (by decide) (by decide +kernel) rfl (v := .ref pa) rfl dX7_count_217 ?_
      refine g_get (C := RX1) (T := TX1) (N := 2) hx hb hts hown hK hP hPa.c0 nX7_count_X1 rfl 1 (by decide) (by decide +kernel) rfl (v := .int (nI P)) rfl dX7_count_220 ?_
      exact g_iret (z := sz) hx hb hr hlk hz hP hL hS dX7_count_223 (gxi_i ⟨by unfold t_count; rw [if_neg (by rw [hsw]; decide), if_neg (by rw [hsw]; decide), if_neg (by rw [hsw]; decide), if_neg (by rw [hsw]; decide), if_neg (by rw [hsw]; decide), if_neg (by rw [hsw]; decide), if_neg (by rw [hsw]; decide), if_neg (by rw [hsw]; decide), if_neg (by rw [hsw]; decide), if_neg (by rw [hsw]; decide), if_neg (by rw [hsw]; decide), if_neg (by rw [hsw]; decide), if_neg (by rw [hsw]; decide), if_neg (by rw [hsw]; decide), if_pos hsw], ⟨x, t, pa, sn, v, ch, tu, _, _, ⟨hx0, ht0, hpa0, hsn0, hv0, hch0, htu0, hob⟩, ho0, hSt, ⟨_, _, _, _, hTx⟩, hPa, hsn, ⟨_, _, _, _, hVo⟩, ⟨_, _, _, hCh⟩, ⟨_, hTu⟩, hPl, hg, hkp, htn, hP5⟩, rfl, hag⟩)
    · have hsw : a1 = nI 15 := by rw [hke, hk0]
      refine g_top (y := nI 15) hsw ?_
      refine lv_tableIn (tgt := 224) (off := 223) hx hb dX7_count_1 (by decide) (by decide) (by decide) (by decide) ?_
      refine lv_aload_n hx hb dX7_count_224 rfl (lv_at hl 0 rfl) ?_
      refine g_get (C := RX7) (T := TX7) (N := 7) hx hb hts hown hK hP ho0 nX7_count_X7 rfl 1 (by decide) (by decide +kernel) rfl (v := .ref t) rfl dX7_count_225 ?_
      refine g_get (C := RX3) (T := TX3) (N := 6) hx hb hts hown hK hP hTx.c0 nX7_count_X3 rfl 1 (by decide) (by decide +kernel) rfl (v := .int (nI tn)) rfl dX7_count_228 ?_
      exact g_iret (z := sz) hx hb hr hlk hz hP hL hS dX7_count_231 (gxi_i ⟨by unfold t_count; rw [if_neg (by rw [hsw]; decide), if_neg (by rw [hsw]; decide), if_neg (by rw [hsw]; decide), if_neg (by rw [hsw]; decide), if_neg (by rw [hsw]; decide), if_neg (by rw [hsw]; decide), if_neg (by rw [hsw]; decide), if_neg (by rw [hsw]; decide), if_neg (by rw [hsw]; decide), if_neg (by rw [hsw]; decide), if_neg (by rw [hsw]; decide), if_neg (by rw [hsw]; decide), if_neg (by rw [hsw]; decide), if_neg (by rw [hsw]; decide), if_neg (by rw [hsw]; decide), if_pos hsw], ⟨x, t, pa, sn, v, ch, tu, _, _, ⟨hx0, ht0, hpa0, hsn0, hv0, hch0, htu0, hob⟩, ho0, hSt, ⟨_, _, _, _, hTx⟩, hPa, hsn, ⟨_, _, _, _, hVo⟩, ⟨_, _, _, hCh⟩, ⟨_, hTu⟩, hPl, hg, hkp, htn, hP5⟩, rfl, hag⟩)
  · refine lv_tableOut (tgt := 232) hx hb dX7_count_1 (ts_out (by decide) (by decide) hout1) (by decide) ?_
    refine lv_bipush (v := (-2)) hx hb dX7_count_232 (by decide) ?_
    exact g_iret (z := sz) hx hb hr hlk hz hP hL hS dX7_count_234 (gxi_i ⟨by unfold t_count; rw [if_neg (fun q => hout1 (by rw [q]; decide)), if_neg (fun q => hout1 (by rw [q]; decide)), if_neg (fun q => hout1 (by rw [q]; decide)), if_neg (fun q => hout1 (by rw [q]; decide)), if_neg (fun q => hout1 (by rw [q]; decide)), if_neg (fun q => hout1 (by rw [q]; decide)), if_neg (fun q => hout1 (by rw [q]; decide)), if_neg (fun q => hout1 (by rw [q]; decide)), if_neg (fun q => hout1 (by rw [q]; decide)), if_neg (fun q => hout1 (by rw [q]; decide)), if_neg (fun q => hout1 (by rw [q]; decide)), if_neg (fun q => hout1 (by rw [q]; decide)), if_neg (fun q => hout1 (by rw [q]; decide)), if_neg (fun q => hout1 (by rw [q]; decide)), if_neg (fun q => hout1 (by rw [q]; decide)), if_neg (fun q => hout1 (by rw [q]; decide))], ⟨x, t, pa, sn, v, ch, tu, _, _, ⟨hx0, ht0, hpa0, hsn0, hv0, hch0, htu0, hob⟩, ho0, hSt, ⟨_, _, _, _, hTx⟩, hPa, hsn, ⟨_, _, _, _, hVo⟩, ⟨_, _, _, hCh⟩, ⟨_, hTu⟩, hPl, hg, hkp, htn, hP5⟩, rfl, hag⟩)
