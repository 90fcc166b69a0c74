/-! the reference tells -/
theorem so_a {S : sS} {a : Int32} {k i : Nat} (ha : a = nI k) (hk : k ≤ 2) : S (5 + k) i = if a = nI 0 then S 5 i else if a = nI 1 then S 6 i else if a = nI 2 then S 7 i else -2 := by
  subst ha
  rcases (show k = 0 ∨ k = 1 ∨ k = 2 by omega) with rfl | rfl | rfl
  · rw [if_pos rfl]
  · rw [if_neg (by decide), if_pos rfl]
  · rw [if_neg (by decide), if_neg (by decide), if_pos rfl]
theorem so_b {S : sS} {a : Int32} {i : Nat} (h : inB a (nI 0) (nI 2) = false) : -2 = if a = nI 0 then S 5 i else if a = nI 1 then S 6 i else if a = nI 2 then S 7 i else -2 := by
  rw [if_neg (fun q => by rw [q] at h; exact absurd h (by decide)), if_neg (fun q => by rw [q] at h; exact absurd h (by decide)), if_neg (fun q => by rw [q] at h; exact absurd h (by decide))]
theorem cntF_pos {p : Nat → Bool} {i : Nat} : ∀ {n : Nat}, i < n → p i = true → 1 ≤ cntF p n
  | n + 1, hi, hp => by
    by_cases c : i = n
    · subst c; rw [cntF_t hp]; omega
    · have := cntF_pos (p := p) (n := n) (by omega) hp
      rw [cntF]; omega
theorem cntF_0 {p : Nat → Bool} : ∀ {n : Nat}, cntF p n = 0 ↔ ∀ s, s < n → p s = false
  | 0 => ⟨fun _ s h => absurd h (Nat.not_lt_zero s), fun _ => rfl⟩
  | n + 1 => by
    rw [cntF]
    constructor
    · intro h s hs
      have h1 : cntF p n = 0 := by omega
      by_cases c : s = n
      · subst c
        cases e : p s with
        | true => rw [if_pos e] at h; omega
        | false => rfl
      · exact (cntF_0.mp h1) s (by omega)
    · intro h
      rw [cntF_0.mpr (fun s hs => h s (by omega)), if_neg (by rw [h n (by omega)]; decide)]
theorem cntF_but {p : Nat → Bool} {i : Nat} : ∀ {n : Nat}, i < n → (cntF p n - (if p i = true then 1 else 0) = 0 ↔ ∀ s, s < n → s ≠ i → p s = false)
  | n + 1, hi => by
    by_cases c : i = n
    · subst c
      have e : cntF p (i + 1) - (if p i = true then 1 else 0) = cntF p i := by rw [cntF]; omega
      rw [e, cntF_0]
      exact ⟨fun h s h1 h2 => h s (by omega), fun h s h1 => h s (by omega) (by omega)⟩
    · have ih := cntF_but (p := p) (n := n) (i := i) (by omega)
      have hle : (if p i = true then 1 else 0) ≤ cntF p n := by
        split
        · exact cntF_pos (i := i) (by omega) (by assumption)
        · omega
      rw [cntF]
      constructor
      · intro h s h1 h2
        have hn : p n = false := by
          cases e : p n with
          | true => rw [if_pos e] at h; omega
          | false => rfl
        by_cases c2 : s = n
        · rw [c2]; exact hn
        · exact ih.mp (by rw [if_neg (by rw [hn]; decide)] at h; omega) s (by omega) h2
      · intro h
        have := ih.mpr (fun s h1 h2 => h s (by omega) h2)
        rw [if_neg (c := p n = true) (by rw [h n (by omega) (by omega)]; decide)]
        omega
theorem and_but {x : Int32} {i : Nat} (hi : i < 32) : (x &&& (bitI i ^^^ -1) = 0) ↔ ∀ s, s < 32 → s ≠ i → hasB x s = false := by
  have hm : ∀ s, s < 32 → (-1 : Int32).toBitVec.getLsbD s = true := by decide +kernel
  have e : ∀ s, s < 32 → hasB (x &&& (bitI i ^^^ -1)) s = (hasB x s && !decide (i = s)) := fun s hs => by
    rw [hb_bit hs, hb_bit hs, Int32.toBitVec_and, BitVec.getLsbD_and, Int32.toBitVec_xor, BitVec.getLsbD_xor, hb_tp i hi, BitVec.getLsbD_twoPow, hm s hs]
    simp [hi]
  constructor
  · intro h s hs hn
    have := e s hs
    rw [h, hb_0, decide_eq_false (Ne.symm hn)] at this
    simpa using this.symm
  · intro h
    apply hb_ext
    intro s hs
    rw [e s hs, hb_0]
    by_cases c : i = s
    · rw [decide_eq_true c]; simp
    · rw [h s hs (Ne.symm c)]; rfl
theorem sil_but {S : sS} {i b : Nat} (hi : i < sN S) (hN : sN S ≤ 12) (hb : b < sB S) : (chR S 0 b &&& (bitI i ^^^ -1) = 0) ↔ cntF (fun i => decide (nI (dosQ S i b) = nI 0)) (sN S) - (if decide (nI (dosQ S i b) = nI 0) = true then 1 else 0) = 0 := by
  have e : chR S 0 b = grpI S 0 b (sN S) := if_pos hb
  rw [e, and_but (by omega), cntF_but (p := fun i => decide (nI (dosQ S i b) = nI 0)) hi]
  constructor
  · intro h s hs hn
    have := h s (by omega) hn
    rw [hb_grp S 0 b (sN S) s hN (by omega), decide_eq_true hs, Bool.true_and] at this
    show decide (nI (dosQ S s b) = nI 0) = false
    rw [decide_eq_false_iff_not] at this ⊢
    exact fun q => this ((nIq (dosF_lt _ _ _ _) (by decide)).mp q)
  · intro h s hs hn
    rw [hb_grp S 0 b (sN S) s hN hs]
    by_cases c : s < sN S
    · have := h s c hn
      have this : decide (nI (dosQ S s b) = nI 0) = false := this
      rw [decide_eq_true c, Bool.true_and]
      rw [decide_eq_false_iff_not] at this ⊢
      exact fun q => this ((nIq (dosF_lt _ _ _ _) (by decide)).mpr q)
    · rw [decide_eq_false c, Bool.false_and]
set_option maxHeartbeats 4000000 in
set_option maxRecDepth 100000 in
theorem c_X8_solo (l : Launch) (mo : Nat) (S : sS) (tf : Nat → Int32) (tn P : Nat) (C : Nat → sS) (kp : Nat → Bool) (a1 a2 : Int32) (σ : gS) (sz : Nat) (hW : Me σ mo S tf tn P C kp) (hok : okS S) (hokC : ∀ k : Nat, k < P → okS (C k)) : gM l yX8_solo wsX8_solo ({ frames := 1, cells := 0, slots := 0, locals := 22 } : Room) 0 0 [.ref mo, .int a1, .int a2] σ sz (gxi (fun r τ n => r = t_solo S a1 a2 ∧ Me τ mo S tf tn P C kp ∧ n = sz ∧ gAs (gZo mo 16) σ τ)) := by
  refine gM_of (cc := cX8_solo) (maxL := 3) (ret := (some .int)) (by decide) rfl (Nat.le_of_ble_eq_true rfl) ?_
  intro D ka lo hL hlo p e s m below meth c hx hb hr hts hown hml hlk hnm hK H locs ls hz hP hS hl
  have hl : lv_has ls 3 [(0, .ref mo), (1, .int a1), (2, .int a2)] := hl
  have hown : s.vm.findClass RX8 = some m.cls := hown
  obtain ⟨A, hMo, hA⟩ := hW
  have hR := hA.2.2.1
  have hR0 := hR
  have hP0 := hA.1
  have htn0 := hA.2.1
  have hP5 : P ≤ 5 := hA.2.2.2.2.2.2.2.2
  have htn : tn ≤ 60 := hA.2.2.2.2.2.2.2.1
  obtain ⟨hB, hN, hKs, hRs⟩ := id hok
  have hag : gAs (gZo mo 16) σ σ := gAs.rf
  refine lv_iload_n hx hb dX8_solo_0 rfl (lv_at hl 1 rfl) ?_
  refine lv_iconst (v := (nI 0)) hx hb dX8_solo_1 (by decide) ?_
  refine lv_aload_n hx hb dX8_solo_2 rfl (lv_at hl 0 rfl) ?_
  refine g_runV (As := []) (rest := [.int (nI 0), .int a1]) (own := RX8) (C := RX8) (T := TX8) (N := 20) 0 hx hb hml hown hts hK hz hP hL hS hlo hl.1 (c_X8_solos l mo A S  σ sz hMo hR) gX8_solo_X8_solos rfl rfl rfl (by decide +kernel) ⟨Nat.le_of_ble_eq_true rfl, Nat.le_of_ble_eq_true rfl⟩ hMo.c0 rfl rfl rfl (Nat.le_of_ble_eq_true rfl) dX8_solo_3 ⟨Nat.le_of_ble_eq_true rfl, Nat.le_of_ble_eq_true rfl⟩ (g_ki0 (fun H locs hz hP hL hS => ?_))
  refine lv_iconst (v := (nI 1)) hx hb dX8_solo_6 (by decide) ?_
  refine lv_isub hx hb dX8_solo_7 ?_
  refine g_runS (As := [.int a1, .int (nI 0), .int ((nI (sK S)) - (nI 1))]) (rest := []) (own := RX8) 3 hx hb hml hown hts hK hz hP hL hS hlo hl.1 (c_X8_in l a1 ((nI 0)) (((nI (sK S)) - (nI 1))) σ sz) gX8_solo_X8_in rfl rfl rfl (by decide +kernel) ⟨Nat.le_of_ble_eq_true rfl, Nat.le_of_ble_eq_true rfl⟩ rfl rfl (Nat.le_of_ble_eq_true rfl) dX8_solo_8 ⟨Nat.le_of_ble_eq_true rfl, Nat.le_of_ble_eq_true rfl⟩ (g_ki0 (fun H locs hz hP hL hS => ?_))
  refine g_top (y := (bI (inN a1 (sK S)))) (congrArg bI (inB_inN a1 (by omega))) ?_
  refine g_ifb_ne (tgt := 16) hx hb dX8_solo_11 (by decide) (fun c11 => ?_) (fun c11 => ?_)
  · obtain ⟨ha1e, ha1l⟩ := tk_in c11 (by omega)
    refine lv_iload_n hx hb dX8_solo_16 rfl (lv_at hl 2 rfl) ?_
    refine lv_iconst (v := (nI 0)) hx hb dX8_solo_17 (by decide) ?_
    refine lv_iconst (v := (nI 2)) hx hb dX8_solo_18 (by decide) ?_
    refine g_runS (As := [.int a2, .int (nI 0), .int (nI 2)]) (rest := []) (own := RX8) 3 hx hb hml hown hts hK hz hP hL hS hlo hl.1 (c_X8_in l a2 ((nI 0)) ((nI 2)) σ sz) gX8_solo_X8_in rfl rfl rfl (by decide +kernel) ⟨Nat.le_of_ble_eq_true rfl, Nat.le_of_ble_eq_true rfl⟩ rfl rfl (Nat.le_of_ble_eq_true rfl) dX8_solo_19 ⟨Nat.le_of_ble_eq_true rfl, Nat.le_of_ble_eq_true rfl⟩ (g_ki0 (fun H locs hz hP hL hS => ?_))
    refine g_ifb_eq (tgt := 34) hx hb dX8_solo_22 (by decide) (fun c22 => ?_) (fun c22 => ?_)
    · refine lv_bipush (v := (-2)) hx hb dX8_solo_34 (by decide) ?_
      exact g_iret (z := sz) hx hb hr hlk hz hP hL hS dX8_solo_36 (gxi_i ⟨by rw [t_solo, if_pos c11]; exact so_b c22, ⟨_, hMo, hA⟩, rfl, hag⟩)
    · obtain ⟨ha2e, ha2l⟩ := tk_wi (by decide) (by decide) c22
      refine lv_aload_n hx hb dX8_solo_25 rfl (lv_at hl 0 rfl) ?_
      refine lv_iload_n hx hb dX8_solo_26 rfl (lv_at hl 1 rfl) ?_
      refine g_top (y := (nI (tk a1))) ha1e ?_
      refine lv_iload_n hx hb dX8_solo_27 rfl (lv_at hl 2 rfl) ?_
      refine g_top (y := (nI (tk a2))) ha2e ?_
      refine g_runV (As := [.int (nI (tk a1)), .int (nI (tk a2))]) (rest := []) (own := RX8) (C := RX8) (T := TX8) (N := 20) 2 hx hb hml hown hts hK hz hP hL hS hlo hl.1 (c_X8_soloOf l mo A S (tk a1) (tk a2) σ sz hMo hR (by omega) (by omega) (by omega)) gX8_solo_X8_soloOf rfl rfl rfl (by decide +kernel) ⟨Nat.le_of_ble_eq_true rfl, Nat.le_of_ble_eq_true rfl⟩ hMo.c0 rfl rfl rfl (Nat.le_of_ble_eq_true rfl) dX8_solo_28 ⟨Nat.le_of_ble_eq_true rfl, Nat.le_of_ble_eq_true rfl⟩ (g_ki0 (fun H locs hz hP hL hS => ?_))
      refine lv_goto (tgt := 36) hx hb dX8_solo_31 (by decide) ?_
      exact g_iret (z := sz) hx hb hr hlk hz hP hL hS dX8_solo_36 (gxi_i ⟨by rw [t_solo, if_pos c11]; exact so_a ha2e ha2l.2, ⟨_, hMo, hA⟩, rfl, hag⟩)
  · refine lv_iconst (v := (-1)) hx hb dX8_solo_14 (by decide) ?_
    exact g_iret (z := sz) hx hb hr hlk hz hP hL hS dX8_solo_15 (gxi_i ⟨by rw [t_solo, if_neg (nb c11)], ⟨_, hMo, hA⟩, rfl, hag⟩)

theorem nX8_singer_X8 : ∀ w ∈ wsX80, w ∈ wsX8_singer := by decide +kernel
set_option maxHeartbeats 4000000 in
set_option maxRecDepth 100000 in
theorem c_X8_singer (l : Launch) (mo : Nat) (S : sS) (tf : Nat → Int32) (tn P : Nat) (C : Nat → sS) (kp : Nat → Bool) (a1 a2 : Int32) (σ : gS) (sz : Nat) (hW : Me σ mo S tf tn P C kp) (hok : okS S) (hokC : ∀ k : Nat, k < P → okS (C k)) : gM l yX8_singer wsX8_singer ({ frames := 5, cells := 0, slots := 0, locals := 113 } : Room) 0 0 [.ref mo, .int a1, .int a2] σ sz (gxi (fun r τ n => r = t_singer S a1 a2 ∧ Me τ mo S tf tn P C kp ∧ n = sz ∧ gAs (gZo mo 16) σ τ)) := by
  refine gM_of (cc := cX8_singer) (maxL := 7) (ret := (some .int)) (by decide) rfl (Nat.le_of_ble_eq_true rfl) ?_
  intro D ka lo hL hlo p e s m below meth c hx hb hr hts hown hml hlk hnm hK H locs ls hz hP hS hl
  have hl : lv_has ls 7 [(0, .ref mo), (1, .int a1), (2, .int a2)] := hl
  have hown : s.vm.findClass RX8 = some m.cls := hown
  obtain ⟨A, hMo, hA⟩ := hW
  have hR := hA.2.2.1
  have hR0 := hR
  have hP0 := hA.1
  have htn0 := hA.2.1
  have hP5 : P ≤ 5 := hA.2.2.2.2.2.2.2.2
  have htn : tn ≤ 60 := hA.2.2.2.2.2.2.2.1
  obtain ⟨hB, hN, hKs, hRs⟩ := id hok
  have hag : gAs (gZo mo 16) σ σ := gAs.rf
  refine lv_aload_n hx hb dX8_singer_0 rfl (lv_at hl 0 rfl) ?_
  refine lv_iload_n hx hb dX8_singer_1 rfl (lv_at hl 1 rfl) ?_
  refine g_runV (As := [.int a1]) (rest := []) (own := RX8) (C := RX8) (T := TX8) (N := 20) 1 hx hb hml hown hts hK hz hP hL hS hlo hl.1 (c_X8_noSinger l mo A S a1 σ sz hMo hR (by omega)) gX8_singer_X8_noSinger rfl rfl rfl (by decide +kernel) ⟨Nat.le_of_ble_eq_true rfl, Nat.le_of_ble_eq_true rfl⟩ hMo.c0 rfl rfl rfl (Nat.le_of_ble_eq_true rfl) dX8_singer_2 ⟨Nat.le_of_ble_eq_true rfl, Nat.le_of_ble_eq_true rfl⟩ (g_ki0 (fun H locs hz hP hL hS => ?_))
  refine g_ifb_eq (tgt := 10) hx hb dX8_singer_5 (by decide) (fun c5 => ?_) (fun c5 => ?_)
  · have c5 : inN a1 (sN S) = true := by simpa using c5
    obtain ⟨ha1e, ha1l⟩ := tk_in c5 (by omega)
    refine lv_aload_n hx hb dX8_singer_10 rfl (lv_at hl 0 rfl) ?_
    refine g_runV (As := []) (rest := []) (own := RX8) (C := RX8) (T := TX8) (N := 20) 0 hx hb hml hown hts hK hz hP hL hS hlo hl.1 (c_X8_liveAll l mo A S σ sz hMo hR (by omega) (by omega) (by omega)) gX8_singer_X8_liveAll rfl rfl rfl (by decide +kernel) ⟨Nat.le_of_ble_eq_true rfl, Nat.le_of_ble_eq_true rfl⟩ hMo.c0 rfl rfl rfl (Nat.le_of_ble_eq_true rfl) dX8_singer_11 ⟨Nat.le_of_ble_eq_true rfl, Nat.le_of_ble_eq_true rfl⟩ (g_kxv0 (fun τ_1 H locs z1 hz hp hP hL hS => ?_))
    obtain ⟨hz1, ⟨B_1, hm_1, hr_1, hv_1⟩, ha_1⟩ := hp
    have hz := hz.trans hz1
    have hMo := hm_1
    have hag := hag.tr ha_1 (fun q h => h)
    have hR : Rr S (B_1 1) := by rw [hr_1 1 (by decide) (by decide)]; exact hR
    have hsc : ∀ j : Nat, j ≤ 6 → j ≠ 2 → B_1 j = A j := fun j h1 h2 => hr_1 j (by omega) (by omega)
    have hdo : ∀ i b : Nat, i < sN S → b < sB S → B_1 10 (96 * i + b) = nI (dosQ S i b) := fun i b h1 h2 => (hv_1 i b h2 (Or.inl h1)).1
    have hle : ∀ i b : Nat, i < sN S → b < sB S → B_1 11 (96 * i + b) = leS S i b := fun i b h1 h2 => (hv_1 i b h2 (Or.inl h1)).2
    refine lv_aload_n hx hb dX8_singer_14 rfl (lv_at hl 0 rfl) ?_
    refine lv_iload_n hx hb dX8_singer_15 rfl (lv_at hl 1 rfl) ?_
    refine g_top (y := (nI (tk a1))) ha1e ?_
    refine lv_iconst (v := (nI 0)) hx hb dX8_singer_16 (by decide) ?_
    refine g_runV (As := [.int (nI (tk a1)), .int (nI 0)]) (rest := []) (own := RX8) (C := RX8) (T := TX8) (N := 20) 2 hx hb hml hown hts hK hz hP hL hS hlo hl.1 (c_X8_of l mo B_1 S (tk a1) 0 τ_1 sz hMo hR (by omega) (by omega) (by omega)) gX8_singer_X8_of rfl rfl rfl (by decide +kernel) ⟨Nat.le_of_ble_eq_true rfl, Nat.le_of_ble_eq_true rfl⟩ hMo.c0 rfl rfl rfl (Nat.le_of_ble_eq_true rfl) dX8_singer_17 ⟨Nat.le_of_ble_eq_true rfl, Nat.le_of_ble_eq_true rfl⟩ (g_ki0 (fun H locs hz hP hL hS => ?_))
    refine lv_istore_n (lv' := [(3, .int (S 3 (tk a1))), (0, .ref mo), (1, .int a1), (2, .int a2)]) hx hb dX8_singer_20 rfl hl (by decide) rfl (fun ls hl => ?_)
    refine lv_iconst (v := (nI 0)) hx hb dX8_singer_21 (by decide) ?_
    refine lv_istore (lv' := [(4, .int (nI 0)), (3, .int (S 3 (tk a1))), (0, .ref mo), (1, .int a1), (2, .int a2)]) hx hb dX8_singer_22 hl (by decide) rfl (fun ls hl => ?_)
    refine lv_iconst (v := (nI 0)) hx hb dX8_singer_24 (by decide) ?_
    refine lv_istore (lv' := [(5, .int (nI 0)), (4, .int (nI 0)), (3, .int (S 3 (tk a1))), (0, .ref mo), (1, .int a1), (2, .int a2)]) hx hb dX8_singer_25 hl (by decide) rfl (fun ls hl => ?_)
    refine lv_iconst (v := (nI 0)) hx hb dX8_singer_27 (by decide) ?_
    refine lv_istore (lv' := [(6, .int (nI 0)), (5, .int (nI 0)), (4, .int (nI 0)), (3, .int (S 3 (tk a1))), (0, .ref mo), (1, .int a1), (2, .int a2)]) hx hb dX8_singer_28 hl (by decide) rfl (fun ls hl => ?_)
    have lp : ∀ (fu_lp : Nat) (k : Nat), (k ≤ sB S) → (sB S - k < fu_lp) → ∀ (H : Heap) (locs : List Loc) (ls : Array Slot), H.size = sz → gH D ka τ_1 H → va_S (gA lo) s.heap H locs → lv_has ls 7 [(0, .ref mo), (1, .int a1), (2, .int a2), (3, .int (lsF (S 3 (tk a1)) (leS S (tk a1)) k)), (4, .int (nI (rnF (doS S (tk a1)) k))), (5, .int (nI (lgF (doS S (tk a1)) k))), (6, .int (nI k))] → W p l e ({ frames := 5, cells := 0, slots := 0, locals := 113 } : Room) s m ([.ref mo, .int a1, .int a2] : List Value).toArray below meth c H locs (0) (0) (MQ below (gQ D ka lo (gxi (fun r τ n => r = t_singer S a1 a2 ∧ Me τ mo S tf tn P C kp ∧ n = sz ∧ gAs (gZo mo 16) σ τ))) ([.ref mo, .int a1, .int a2] : List Value).toArray s 0 0 (gA lo)) (F0 m 30 ls []) := by
      intro fu_lp
      induction fu_lp with
      | zero => intro k hk hm_lp; exact absurd hm_lp (Nat.not_lt_zero _)
      | succ fu_lp ih_lp =>
        intro k hk hm_lp H locs ls hz hP hS hl
        refine lv_iload hx hb dX8_singer_30 (lv_at hl 6 rfl) ?_
        refine lv_aload_n hx hb dX8_singer_32 rfl (lv_at hl 0 rfl) ?_
        refine g_runV (As := []) (rest := [.int (nI k)]) (own := RX8) (C := RX8) (T := TX8) (N := 20) 0 hx hb hml hown hts hK hz hP hL hS hlo hl.1 (c_X8_beats l mo B_1 S  τ_1 sz hMo hR) gX8_singer_X8_beats rfl rfl rfl (by decide +kernel) ⟨Nat.le_of_ble_eq_true rfl, Nat.le_of_ble_eq_true rfl⟩ hMo.c0 rfl rfl rfl (Nat.le_of_ble_eq_true rfl) dX8_singer_33 ⟨Nat.le_of_ble_eq_true rfl, Nat.le_of_ble_eq_true rfl⟩ (g_ki0 (fun H locs hz hP hL hS => ?_))
        refine g_icmp_ge (tgt := 98) (a := k) (b := sB S) hx hb (by omega) (by omega) dX8_singer_36 (by decide) (fun c36 => ?_) (fun c36 => ?_)
        · refine lv_iload_n hx hb dX8_singer_98 rfl (lv_at hl 2 rfl) ?_
          rcases Decidable.em (inB a2 (nI 0) (nI 7) = true) with hin99 | hout99
          · obtain ⟨k99, hk1, hk2, hke⟩ := inB_of (by decide) (by decide) hin99
            rcases (show k99 = 0 ∨ k99 = 1 ∨ k99 = 2 ∨ k99 = 3 ∨ k99 = 4 ∨ k99 = 5 ∨ k99 = 6 ∨ k99 = 7 by omega) with hk0 | hk0 | hk0 | hk0 | hk0 | hk0 | hk0 | hk0
            · have hsw : a2 = nI 0 := by rw [hke, hk0]
              refine g_top (y := nI 0) hsw ?_
              refine lv_tableIn (tgt := 144) (off := 45) hx hb dX8_singer_99 (by decide) (by decide) (by decide) (by decide) ?_
              refine lv_aload_n hx hb dX8_singer_144 rfl (lv_at hl 0 rfl) ?_
              refine lv_iload_n hx hb dX8_singer_145 rfl (lv_at hl 1 rfl) ?_
              refine g_top (y := (nI (tk a1))) ha1e ?_
              refine lv_iload_n hx hb dX8_singer_146 rfl (lv_at hl 2 rfl) ?_
              refine g_top (y := (nI 0)) hsw ?_
              refine g_runV (As := [.int (nI (tk a1)), .int (nI 0)]) (rest := []) (own := RX8) (C := RX8) (T := TX8) (N := 20) 2 hx hb hml hown hts hK hz hP hL hS hlo hl.1 (c_X8_of l mo B_1 S (tk a1) 0 τ_1 sz hMo hR (by omega) (by omega) (by omega)) gX8_singer_X8_of rfl rfl rfl (by decide +kernel) ⟨Nat.le_of_ble_eq_true rfl, Nat.le_of_ble_eq_true rfl⟩ hMo.c0 rfl rfl rfl (Nat.le_of_ble_eq_true rfl) dX8_singer_147 ⟨Nat.le_of_ble_eq_true rfl, Nat.le_of_ble_eq_true rfl⟩ (g_ki0 (fun H locs hz hP hL hS => ?_))
              exact g_iret (z := sz) hx hb hr hlk hz hP hL hS dX8_singer_150 (gxi_i ⟨by unfold t_singer; rw [if_pos (by first | exact c5 | exact nb c5 | exact Ne.symm c5 | exact fun q => q c5 | exact fun q => q c5.symm | omega), if_pos hsw]; rfl, ⟨_, hMo, MeP.scr hA hsc⟩, rfl, hag⟩)
            · have hsw : a2 = nI 1 := by rw [hke, hk0]
              refine g_top (y := nI 1) hsw ?_
              refine lv_tableIn (tgt := 144) (off := 45) hx hb dX8_singer_99 (by decide) (by decide) (by decide) (by decide) ?_
              refine lv_aload_n hx hb dX8_singer_144 rfl (lv_at hl 0 rfl) ?_
              refine lv_iload_n hx hb dX8_singer_145 rfl (lv_at hl 1 rfl) ?_
              refine g_top (y := (nI (tk a1))) ha1e ?_
              refine lv_iload_n hx hb dX8_singer_146 rfl (lv_at hl 2 rfl) ?_
              refine g_top (y := (nI 1)) hsw ?_
              refine g_runV (As := [.int (nI (tk a1)), .int (nI 1)]) (rest := []) (own := RX8) (C := RX8) (T := TX8) (N := 20) 2 hx hb hml hown hts hK hz hP hL hS hlo hl.1 (c_X8_of l mo B_1 S (tk a1) 1 τ_1 sz hMo hR (by omega) (by omega) (by omega)) gX8_singer_X8_of rfl rfl rfl (by decide +kernel) ⟨Nat.le_of_ble_eq_true rfl, Nat.le_of_ble_eq_true rfl⟩ hMo.c0 rfl rfl rfl (Nat.le_of_ble_eq_true rfl) dX8_singer_147 ⟨Nat.le_of_ble_eq_true rfl, Nat.le_of_ble_eq_true rfl⟩ (g_ki0 (fun H locs hz hP hL hS => ?_))
              exact g_iret (z := sz) hx hb hr hlk hz hP hL hS dX8_singer_150 (gxi_i ⟨by unfold t_singer; rw [if_pos (by first | exact c5 | exact nb c5 | exact Ne.symm c5 | exact fun q => q c5 | exact fun q => q c5.symm | omega), if_neg (by rw [hsw]; decide), if_pos hsw]; rfl, ⟨_, hMo, MeP.scr hA hsc⟩, rfl, hag⟩)
            · have hsw : a2 = nI 2 := by rw [hke, hk0]
              refine g_top (y := nI 2) hsw ?_
              refine lv_tableIn (tgt := 144) (off := 45) hx hb dX8_singer_99 (by decide) (by decide) (by decide) (by decide) ?_
              refine lv_aload_n hx hb dX8_singer_144 rfl (lv_at hl 0 rfl) ?_
              refine lv_iload_n hx hb dX8_singer_145 rfl (lv_at hl 1 rfl) ?_
              refine g_top (y := (nI (tk a1))) ha1e ?_
              refine lv_iload_n hx hb dX8_singer_146 rfl (lv_at hl 2 rfl) ?_
              refine g_top (y := (nI 2)) hsw ?_
              refine g_runV (As := [.int (nI (tk a1)), .int (nI 2)]) (rest := []) (own := RX8) (C := RX8) (T := TX8) (N := 20) 2 hx hb hml hown hts hK hz hP hL hS hlo hl.1 (c_X8_of l mo B_1 S (tk a1) 2 τ_1 sz hMo hR (by omega) (by omega) (by omega)) gX8_singer_X8_of rfl rfl rfl (by decide +kernel) ⟨Nat.le_of_ble_eq_true rfl, Nat.le_of_ble_eq_true rfl⟩ hMo.c0 rfl rfl rfl (Nat.le_of_ble_eq_true rfl) dX8_singer_147 ⟨Nat.le_of_ble_eq_true rfl, Nat.le_of_ble_eq_true rfl⟩ (g_ki0 (fun H locs hz hP hL hS => ?_))
              exact g_iret (z := sz) hx hb hr hlk hz hP hL hS dX8_singer_150 (gxi_i ⟨by unfold t_singer; rw [if_pos (by first | exact c5 | exact nb c5 | exact Ne.symm c5 | exact fun q => q c5 | exact fun q => q c5.symm | omega), if_neg (by rw [hsw]; decide), if_neg (by rw [hsw]; decide), if_pos hsw]; rfl, ⟨_, hMo, MeP.scr hA hsc⟩, rfl, hag⟩)
            · have hsw : a2 = nI 3 := by rw [hke, hk0]
              refine g_top (y := nI 3) hsw ?_
              refine lv_tableIn (tgt := 151) (off := 52) hx hb dX8_singer_99 (by decide) (by decide) (by decide) (by decide) ?_
              refine lv_aload_n hx hb dX8_singer_151 rfl (lv_at hl 0 rfl) ?_
              refine lv_iload_n hx hb dX8_singer_152 rfl (lv_at hl 1 rfl) ?_
              refine g_top (y := (nI (tk a1))) ha1e ?_
              refine g_runV (As := [.int (nI (tk a1))]) (rest := []) (own := RX8) (C := RX8) (T := TX8) (N := 20) 1 hx hb hml hown hts hK hz hP hL hS hlo hl.1 (c_X8_marksOf l mo B_1 S (tk a1) τ_1 sz hMo hR (by omega) (by omega) (by omega)) gX8_singer_X8_marksOf rfl rfl rfl (by decide +kernel) ⟨Nat.le_of_ble_eq_true rfl, Nat.le_of_ble_eq_true rfl⟩ hMo.c0 rfl rfl rfl (Nat.le_of_ble_eq_true rfl) dX8_singer_153 ⟨Nat.le_of_ble_eq_true rfl, Nat.le_of_ble_eq_true rfl⟩ (g_ki0 (fun H locs hz hP hL hS => ?_))
              exact g_iret (z := sz) hx hb hr hlk hz hP hL hS dX8_singer_156 (gxi_i ⟨by unfold t_singer; rw [if_pos (by first | exact c5 | exact nb c5 | exact Ne.symm c5 | exact fun q => q c5 | exact fun q => q c5.symm | omega), if_neg (by rw [hsw]; decide), if_neg (by rw [hsw]; decide), if_neg (by rw [hsw]; decide), if_pos hsw], ⟨_, hMo, MeP.scr hA hsc⟩, rfl, hag⟩)
            · have hsw : a2 = nI 4 := by rw [hke, hk0]
              refine g_top (y := nI 4) hsw ?_
              refine lv_tableIn (tgt := 157) (off := 58) hx hb dX8_singer_99 (by decide) (by decide) (by decide) (by decide) ?_
              refine lv_aload_n hx hb dX8_singer_157 rfl (lv_at hl 0 rfl) ?_
              refine lv_iload_n hx hb dX8_singer_158 rfl (lv_at hl 1 rfl) ?_
              refine g_top (y := (nI (tk a1))) ha1e ?_
              refine lv_iconst (v := (nI 0)) hx hb dX8_singer_159 (by decide) ?_
              refine g_runV (As := [.int (nI (tk a1)), .int (nI 0)]) (rest := []) (own := RX8) (C := RX8) (T := TX8) (N := 20) 2 hx hb hml hown hts hK hz hP hL hS hlo hl.1 (c_X8_beatsOf l mo B_1 S (tk a1) 0 τ_1 sz hMo hR (by omega) (by omega) (by omega)) gX8_singer_X8_beatsOf rfl rfl rfl (by decide +kernel) ⟨Nat.le_of_ble_eq_true rfl, Nat.le_of_ble_eq_true rfl⟩ hMo.c0 rfl rfl rfl (Nat.le_of_ble_eq_true rfl) dX8_singer_160 ⟨Nat.le_of_ble_eq_true rfl, Nat.le_of_ble_eq_true rfl⟩ (g_ki0 (fun H locs hz hP hL hS => ?_))
              exact g_iret (z := sz) hx hb hr hlk hz hP hL hS dX8_singer_163 (gxi_i ⟨by unfold t_singer; rw [if_pos (by first | exact c5 | exact nb c5 | exact Ne.symm c5 | exact fun q => q c5 | exact fun q => q c5.symm | omega), if_neg (by rw [hsw]; decide), if_neg (by rw [hsw]; decide), if_neg (by rw [hsw]; decide), if_neg (by rw [hsw]; decide)]; unfold pbI; rw [if_pos hsw, cntF_c (fun j hj => by rw [hdo _ j ha1l hj])]; rfl, ⟨_, hMo, MeP.scr hA hsc⟩, rfl, hag⟩)
            · have hsw : a2 = nI 5 := by rw [hke, hk0]
              refine g_top (y := nI 5) hsw ?_
              refine lv_tableIn (tgt := 164) (off := 65) hx hb dX8_singer_99 (by decide) (by decide) (by decide) (by decide) ?_
              refine lv_aload_n hx hb dX8_singer_164 rfl (lv_at hl 0 rfl) ?_
              refine lv_iload_n hx hb dX8_singer_165 rfl (lv_at hl 1 rfl) ?_
              refine g_top (y := (nI (tk a1))) ha1e ?_
              refine lv_iconst (v := (nI 2)) hx hb dX8_singer_166 (by decide) ?_
              refine g_runV (As := [.int (nI (tk a1)), .int (nI 2)]) (rest := []) (own := RX8) (C := RX8) (T := TX8) (N := 20) 2 hx hb hml hown hts hK hz hP hL hS hlo hl.1 (c_X8_beatsOf l mo B_1 S (tk a1) 2 τ_1 sz hMo hR (by omega) (by omega) (by omega)) gX8_singer_X8_beatsOf rfl rfl rfl (by decide +kernel) ⟨Nat.le_of_ble_eq_true rfl, Nat.le_of_ble_eq_true rfl⟩ hMo.c0 rfl rfl rfl (Nat.le_of_ble_eq_true rfl) dX8_singer_167 ⟨Nat.le_of_ble_eq_true rfl, Nat.le_of_ble_eq_true rfl⟩ (g_ki0 (fun H locs hz hP hL hS => ?_))
              exact g_iret (z := sz) hx hb hr hlk hz hP hL hS dX8_singer_170 (gxi_i ⟨by unfold t_singer; rw [if_pos (by first | exact c5 | exact nb c5 | exact Ne.symm c5 | exact fun q => q c5 | exact fun q => q c5.symm | omega), if_neg (by rw [hsw]; decide), if_neg (by rw [hsw]; decide), if_neg (by rw [hsw]; decide), if_neg (by rw [hsw]; decide)]; unfold pbI; rw [if_neg (by rw [hsw]; decide), if_pos hsw, cntF_c (fun j hj => by rw [hdo _ j ha1l hj])]; rfl, ⟨_, hMo, MeP.scr hA hsc⟩, rfl, hag⟩)
            · have hsw : a2 = nI 6 := by rw [hke, hk0]
              refine g_top (y := nI 6) hsw ?_
              refine lv_tableIn (tgt := 171) (off := 72) hx hb dX8_singer_99 (by decide) (by decide) (by decide) (by decide) ?_
              refine lv_iload_n hx hb dX8_singer_171 rfl (lv_at hl 3 rfl) ?_
              exact g_iret (z := sz) hx hb hr hlk hz hP hL hS dX8_singer_172 (gxi_i ⟨by unfold t_singer; rw [if_pos (by first | exact c5 | exact nb c5 | exact Ne.symm c5 | exact fun q => q c5 | exact fun q => q c5.symm | omega), if_neg (by rw [hsw]; decide), if_neg (by rw [hsw]; decide), if_neg (by rw [hsw]; decide), if_neg (by rw [hsw]; decide)]; unfold pbI; rw [if_neg (by rw [hsw]; decide), if_neg (by rw [hsw]; decide), if_pos hsw, show sB S = k by omega], ⟨_, hMo, MeP.scr hA hsc⟩, rfl, hag⟩)
            · have hsw : a2 = nI 7 := by rw [hke, hk0]
              refine g_top (y := nI 7) hsw ?_
              refine lv_tableIn (tgt := 173) (off := 74) hx hb dX8_singer_99 (by decide) (by decide) (by decide) (by decide) ?_
              refine lv_iload hx hb dX8_singer_173 (lv_at hl 5 rfl) ?_
              exact g_iret (z := sz) hx hb hr hlk hz hP hL hS dX8_singer_175 (gxi_i ⟨by unfold t_singer; rw [if_pos (by first | exact c5 | exact nb c5 | exact Ne.symm c5 | exact fun q => q c5 | exact fun q => q c5.symm | omega), if_neg (by rw [hsw]; decide), if_neg (by rw [hsw]; decide), if_neg (by rw [hsw]; decide), if_neg (by rw [hsw]; decide)]; unfold pbI; rw [if_neg (by rw [hsw]; decide), if_neg (by rw [hsw]; decide), if_neg (by rw [hsw]; decide), if_pos hsw, show sB S = k by omega], ⟨_, hMo, MeP.scr hA hsc⟩, rfl, hag⟩)
          · refine lv_tableOut (tgt := 176) hx hb dX8_singer_99 (ts_out (by decide) (by decide) hout99) (by decide) ?_
            refine lv_bipush (v := (-2)) hx hb dX8_singer_176 (by decide) ?_
            exact g_iret (z := sz) hx hb hr hlk hz hP hL hS dX8_singer_178 (gxi_i ⟨by unfold t_singer; rw [if_pos (by first | exact c5 | exact nb c5 | exact Ne.symm c5 | exact fun q => q c5 | exact fun q => q c5.symm | omega), if_neg (fun q => hout99 (by rw [q]; decide)), if_neg (fun q => hout99 (by rw [q]; decide)), if_neg (fun q => hout99 (by rw [q]; decide)), if_neg (fun q => hout99 (by rw [q]; decide))]; unfold pbI; rw [if_neg (fun q => hout99 (by rw [q]; decide)), if_neg (fun q => hout99 (by rw [q]; decide)), if_neg (fun q => hout99 (by rw [q]; decide)), if_neg (fun q => hout99 (by rw [q]; decide))], ⟨_, hMo, MeP.scr hA hsc⟩, rfl, hag⟩)
        · refine lv_iload_n hx hb dX8_singer_39 rfl (lv_at hl 3 rfl) ?_
          refine lv_aload_n hx hb dX8_singer_40 rfl (lv_at hl 0 rfl) ?_
          refine g_get (C := RX8) (T := TX8) (N := 20) hx hb hts hown hK hP hMo.c0 nX8_singer_X8 rfl 14 (by decide) (by decide +kernel) rfl (v := .ref (mo + 11)) rfl dX8_singer_41 ?_
          refine lv_bipush (v := (nI 96)) hx hb dX8_singer_44 (by decide) ?_
          refine lv_iload_n hx hb dX8_singer_46 rfl (lv_at hl 1 rfl) ?_
          refine g_top (y := (nI (tk a1))) ha1e ?_
          refine lv_imul hx hb dX8_singer_47 ?_
          refine g_top (pk_mul 96 (tk a1)) ?_
          refine lv_iload hx hb dX8_singer_48 (lv_at hl 6 rfl) ?_
          refine lv_iadd hx hb dX8_singer_50 ?_
          refine g_top (nI_add (96 * (tk a1)) k) ?_
          refine g_iald hx hb hK hP hMo.c11 (i := nI ((96 * (tk a1)) + k)) (vp_in_nI (by omega) (by omega)) dX8_singer_51 ?_
          rw [nI_clamp (n := (96 * (tk a1)) + k) (by omega)]
          refine g_runS (As := [.int (lsF (S 3 (tk a1)) (leS S (tk a1)) k), .int ((B_1 11) ((96 * (tk a1)) + k))]) (rest := []) (own := RX8) 2 hx hb hml hown hts hK hz hP hL hS hlo hl.1 (c_X8_lesser l ((lsF (S 3 (tk a1)) (leS S (tk a1)) k)) (((B_1 11) ((96 * (tk a1)) + k))) τ_1 sz) gX8_singer_X8_lesser rfl rfl rfl (by decide +kernel) ⟨Nat.le_of_ble_eq_true rfl, Nat.le_of_ble_eq_true rfl⟩ rfl rfl (Nat.le_of_ble_eq_true rfl) dX8_singer_52 ⟨Nat.le_of_ble_eq_true rfl, Nat.le_of_ble_eq_true rfl⟩ (g_ki0 (fun H locs hz hP hL hS => ?_))
          refine g_top (y := (lsF (S 3 (tk a1)) (leS S (tk a1)) (k + 1))) (by rw [hle _ _ ha1l (by omega), les_eq]; rfl) ?_
          refine lv_istore_n (lv' := [(3, .int (lsF (S 3 (tk a1)) (leS S (tk a1)) (k + 1))), (0, .ref mo), (1, .int a1), (2, .int a2), (4, .int (nI (rnF (doS S (tk a1)) k))), (5, .int (nI (lgF (doS S (tk a1)) k))), (6, .int (nI k))]) hx hb dX8_singer_55 rfl hl (by decide) rfl (fun ls hl => ?_)
          refine lv_aload_n hx hb dX8_singer_56 rfl (lv_at hl 1 rfl) ?_
          refine lv_iload_n hx hb dX8_singer_57 rfl (lv_at hl 2 rfl) ?_
          refine g_top (y := (nI (tk a1))) ha1e ?_
          refine lv_iload hx hb dX8_singer_58 (lv_at hl 6 rfl) ?_
          refine g_runV (As := [.int (nI (tk a1)), .int (nI k)]) (rest := []) (own := RX8) (C := RX8) (T := TX8) (N := 20) 2 hx hb hml hown hts hK hz hP hL hS hlo hl.1 (c_X8_doesAt l mo B_1 S (tk a1) k τ_1 sz hMo hR (by omega) (by omega) (by omega) (by omega)) gX8_singer_X8_doesAt rfl rfl rfl (by decide +kernel) ⟨Nat.le_of_ble_eq_true rfl, Nat.le_of_ble_eq_true rfl⟩ hMo.c0 rfl rfl rfl (Nat.le_of_ble_eq_true rfl) dX8_singer_60 ⟨Nat.le_of_ble_eq_true rfl, Nat.le_of_ble_eq_true rfl⟩ (g_ki0 (fun H locs hz hP hL hS => ?_))
          refine g_top (y := (doS S (tk a1) k)) (hdo _ _ ha1l (by omega)) ?_
          refine lv_if_ne (tgt := 73) hx hb dX8_singer_63 (by decide) (fun c63 => ?_) (fun c63 => ?_)
          · refine lv_iconst (v := (nI 0)) hx hb dX8_singer_73 (by decide) ?_
            refine g_top (y := (nI (rnF (doS S (tk a1)) (k + 1)))) (congrArg nI (rnF_f c63)) ?_
            have hr1 := rnF_le (doS S (tk a1)) (k + 1)
            have hr2 := lgF_le (doS S (tk a1)) k
            refine lv_istore (lv' := [(4, .int (nI (rnF (doS S (tk a1)) (k + 1)))), (3, .int (lsF (S 3 (tk a1)) (leS S (tk a1)) (k + 1))), (0, .ref mo), (1, .int a1), (2, .int a2), (5, .int (nI (lgF (doS S (tk a1)) k))), (6, .int (nI k))]) hx hb dX8_singer_74 hl (by decide) rfl (fun ls hl => ?_)
            refine lv_iload hx hb dX8_singer_76 (lv_at hl 0 rfl) ?_
            refine lv_iload hx hb dX8_singer_78 (lv_at hl 5 rfl) ?_
            refine g_icmp_le (tgt := 88) (a := rnF (doS S (tk a1)) (k + 1)) (b := lgF (doS S (tk a1)) k) hx hb (by omega) (by omega) dX8_singer_80 (by decide) (fun c80 => ?_) (fun c80 => ?_)
            · refine lv_iload hx hb dX8_singer_88 (lv_at hl 5 rfl) ?_
              refine g_top (y := (nI (lgF (doS S (tk a1)) (k + 1)))) (congrArg nI (by rw [lgF]; omega)) ?_
              refine lv_istore (lv' := [(5, .int (nI (lgF (doS S (tk a1)) (k + 1)))), (4, .int (nI (rnF (doS S (tk a1)) (k + 1)))), (3, .int (lsF (S 3 (tk a1)) (leS S (tk a1)) (k + 1))), (0, .ref mo), (1, .int a1), (2, .int a2), (6, .int (nI k))]) hx hb dX8_singer_90 hl (by decide) rfl (fun ls hl => ?_)
              refine lv_iinc (v := (nI (k + 1))) (lv' := [(6, .int (nI (k + 1))), (5, .int (nI (lgF (doS S (tk a1)) (k + 1)))), (4, .int (nI (rnF (doS S (tk a1)) (k + 1)))), (3, .int (lsF (S 3 (tk a1)) (leS S (tk a1)) (k + 1))), (0, .ref mo), (1, .int a1), (2, .int a2)]) hx hb dX8_singer_92 hl (k := 6) rfl (g_inc k 1) (by decide) rfl (fun ls hl => ?_)
              refine lv_goto (tgt := 30) hx hb dX8_singer_95 (by decide) ?_
              exact ih_lp (k + 1) (by omega) (by omega) H locs ls hz hP hS (lv_sub hl [4, 5, 6, 3, 2, 1, 0] rfl)
            · refine lv_iload hx hb dX8_singer_83 (lv_at hl 0 rfl) ?_
              refine lv_goto (tgt := 90) hx hb dX8_singer_85 (by decide) ?_
              refine g_top (y := (nI (lgF (doS S (tk a1)) (k + 1)))) (congrArg nI (by rw [lgF]; omega)) ?_
              refine lv_istore (lv' := [(5, .int (nI (lgF (doS S (tk a1)) (k + 1)))), (4, .int (nI (rnF (doS S (tk a1)) (k + 1)))), (3, .int (lsF (S 3 (tk a1)) (leS S (tk a1)) (k + 1))), (0, .ref mo), (1, .int a1), (2, .int a2), (6, .int (nI k))]) hx hb dX8_singer_90 hl (by decide) rfl (fun ls hl => ?_)
              refine lv_iinc (v := (nI (k + 1))) (lv' := [(6, .int (nI (k + 1))), (5, .int (nI (lgF (doS S (tk a1)) (k + 1)))), (4, .int (nI (rnF (doS S (tk a1)) (k + 1)))), (3, .int (lsF (S 3 (tk a1)) (leS S (tk a1)) (k + 1))), (0, .ref mo), (1, .int a1), (2, .int a2)]) hx hb dX8_singer_92 hl (k := 6) rfl (g_inc k 1) (by decide) rfl (fun ls hl => ?_)
              refine lv_goto (tgt := 30) hx hb dX8_singer_95 (by decide) ?_
              exact ih_lp (k + 1) (by omega) (by omega) H locs ls hz hP hS (lv_sub hl [4, 5, 6, 3, 2, 1, 0] rfl)
          · refine lv_iload hx hb dX8_singer_66 (lv_at hl 4 rfl) ?_
            refine lv_iconst (v := (nI 1)) hx hb dX8_singer_68 (by decide) ?_
            refine lv_iadd hx hb dX8_singer_69 ?_
            refine g_top (nI_add (rnF (doS S (tk a1)) k) 1) ?_
            refine lv_goto (tgt := 74) hx hb dX8_singer_70 (by decide) ?_
            refine g_top (y := (nI (rnF (doS S (tk a1)) (k + 1)))) (congrArg nI (rnF_t c63)) ?_
            have hr1 := rnF_le (doS S (tk a1)) (k + 1)
            have hr2 := lgF_le (doS S (tk a1)) k
            refine lv_istore (lv' := [(4, .int (nI (rnF (doS S (tk a1)) (k + 1)))), (3, .int (lsF (S 3 (tk a1)) (leS S (tk a1)) (k + 1))), (0, .ref mo), (1, .int a1), (2, .int a2), (5, .int (nI (lgF (doS S (tk a1)) k))), (6, .int (nI k))]) hx hb dX8_singer_74 hl (by decide) rfl (fun ls hl => ?_)
            refine lv_iload hx hb dX8_singer_76 (lv_at hl 0 rfl) ?_
            refine lv_iload hx hb dX8_singer_78 (lv_at hl 5 rfl) ?_
            refine g_icmp_le (tgt := 88) (a := rnF (doS S (tk a1)) (k + 1)) (b := lgF (doS S (tk a1)) k) hx hb (by omega) (by omega) dX8_singer_80 (by decide) (fun c80 => ?_) (fun c80 => ?_)
            · refine lv_iload hx hb dX8_singer_88 (lv_at hl 5 rfl) ?_
              refine g_top (y := (nI (lgF (doS S (tk a1)) (k + 1)))) (congrArg nI (by rw [lgF]; omega)) ?_
              refine lv_istore (lv' := [(5, .int (nI (lgF (doS S (tk a1)) (k + 1)))), (4, .int (nI (rnF (doS S (tk a1)) (k + 1)))), (3, .int (lsF (S 3 (tk a1)) (leS S (tk a1)) (k + 1))), (0, .ref mo), (1, .int a1), (2, .int a2), (6, .int (nI k))]) hx hb dX8_singer_90 hl (by decide) rfl (fun ls hl => ?_)
              refine lv_iinc (v := (nI (k + 1))) (lv' := [(6, .int (nI (k + 1))), (5, .int (nI (lgF (doS S (tk a1)) (k + 1)))), (4, .int (nI (rnF (doS S (tk a1)) (k + 1)))), (3, .int (lsF (S 3 (tk a1)) (leS S (tk a1)) (k + 1))), (0, .ref mo), (1, .int a1), (2, .int a2)]) hx hb dX8_singer_92 hl (k := 6) rfl (g_inc k 1) (by decide) rfl (fun ls hl => ?_)
              refine lv_goto (tgt := 30) hx hb dX8_singer_95 (by decide) ?_
              exact ih_lp (k + 1) (by omega) (by omega) H locs ls hz hP hS (lv_sub hl [4, 5, 6, 3, 2, 1, 0] rfl)
            · refine lv_iload hx hb dX8_singer_83 (lv_at hl 0 rfl) ?_
              refine lv_goto (tgt := 90) hx hb dX8_singer_85 (by decide) ?_
              refine g_top (y := (nI (lgF (doS S (tk a1)) (k + 1)))) (congrArg nI (by rw [lgF]; omega)) ?_
              refine lv_istore (lv' := [(5, .int (nI (lgF (doS S (tk a1)) (k + 1)))), (4, .int (nI (rnF (doS S (tk a1)) (k + 1)))), (3, .int (lsF (S 3 (tk a1)) (leS S (tk a1)) (k + 1))), (0, .ref mo), (1, .int a1), (2, .int a2), (6, .int (nI k))]) hx hb dX8_singer_90 hl (by decide) rfl (fun ls hl => ?_)
              refine lv_iinc (v := (nI (k + 1))) (lv' := [(6, .int (nI (k + 1))), (5, .int (nI (lgF (doS S (tk a1)) (k + 1)))), (4, .int (nI (rnF (doS S (tk a1)) (k + 1)))), (3, .int (lsF (S 3 (tk a1)) (leS S (tk a1)) (k + 1))), (0, .ref mo), (1, .int a1), (2, .int a2)]) hx hb dX8_singer_92 hl (k := 6) rfl (g_inc k 1) (by decide) rfl (fun ls hl => ?_)
              refine lv_goto (tgt := 30) hx hb dX8_singer_95 (by decide) ?_
              exact ih_lp (k + 1) (by omega) (by omega) H locs ls hz hP hS (lv_sub hl [4, 5, 6, 3, 2, 1, 0] rfl)
    exact lp _ 0 (by omega) (Nat.lt_succ_self _) H locs ls hz hP hS (lv_sub hl [4, 5, 6, 3, 2, 1, 0] rfl)
  · have c5 : inN a1 (sN S) = false := by simpa using c5
    refine lv_iconst (v := (-1)) hx hb dX8_singer_8 (by decide) ?_
    exact g_iret (z := sz) hx hb hr hlk hz hP hL hS dX8_singer_9 (gxi_i ⟨by unfold t_singer; rw [if_neg (nb c5)], ⟨_, hMo, hA⟩, rfl, hag⟩)

set_option maxHeartbeats 4000000 in
set_option maxRecDepth 100000 in
theorem c_X8_silentWithout (l : Launch) (mo : Nat) (S : sS) (tf : Nat → Int32) (tn P : Nat) (C : Nat → sS) (kp : Nat → Bool) (a1 : Int32) (σ : gS) (sz : Nat) (hW : Me σ mo S tf tn P C kp) (hok : okS S) (hokC : ∀ k : Nat, k < P → okS (C k)) : gM l yX8_silentWithout wsX8_silentWithout ({ frames := 5, cells := 0, slots := 0, locals := 113 } : Room) 0 0 [.ref mo, .int a1] σ sz (gxi (fun r τ n => r = t_silent S a1 ∧ Me τ mo S tf tn P C kp ∧ n = sz ∧ gAs (gZo mo 16) σ τ)) := by
  refine gM_of (cc := cX8_silentWithout) (maxL := 5) (ret := (some .int)) (by decide) rfl (Nat.le_of_ble_eq_true rfl) ?_
  intro D ka lo hL hlo p e s m below meth c hx hb hr hts hown hml hlk hnm hK H locs ls hz hP hS hl
  have hl : lv_has ls 5 [(0, .ref mo), (1, .int a1)] := hl
  have hown : s.vm.findClass RX8 = some m.cls := hown
  obtain ⟨A, hMo, hA⟩ := hW
  have hR := hA.2.2.1
  have hR0 := hR
  have hP0 := hA.1
  have htn0 := hA.2.1
  have hP5 : P ≤ 5 := hA.2.2.2.2.2.2.2.2
  have htn : tn ≤ 60 := hA.2.2.2.2.2.2.2.1
  obtain ⟨hB, hN, hKs, hRs⟩ := id hok
  have hag : gAs (gZo mo 16) σ σ := gAs.rf
  refine lv_aload_n hx hb dX8_silentWithout_0 rfl (lv_at hl 0 rfl) ?_
  refine lv_iload_n hx hb dX8_silentWithout_1 rfl (lv_at hl 1 rfl) ?_
  refine g_runV (As := [.int a1]) (rest := []) (own := RX8) (C := RX8) (T := TX8) (N := 20) 1 hx hb hml hown hts hK hz hP hL hS hlo hl.1 (c_X8_noSinger l mo A S a1 σ sz hMo hR (by omega)) gX8_silentWithout_X8_noSinger rfl rfl rfl (by decide +kernel) ⟨Nat.le_of_ble_eq_true rfl, Nat.le_of_ble_eq_true rfl⟩ hMo.c0 rfl rfl rfl (Nat.le_of_ble_eq_true rfl) dX8_silentWithout_2 ⟨Nat.le_of_ble_eq_true rfl, Nat.le_of_ble_eq_true rfl⟩ (g_ki0 (fun H locs hz hP hL hS => ?_))
  refine g_ifb_eq (tgt := 10) hx hb dX8_silentWithout_5 (by decide) (fun c5 => ?_) (fun c5 => ?_)
  · have c5 : inN a1 (sN S) = true := by simpa using c5
    obtain ⟨ha1e, ha1l⟩ := tk_in c5 (by omega)
    refine lv_aload_n hx hb dX8_silentWithout_10 rfl (lv_at hl 0 rfl) ?_
    refine g_runV (As := []) (rest := []) (own := RX8) (C := RX8) (T := TX8) (N := 20) 0 hx hb hml hown hts hK hz hP hL hS hlo hl.1 (c_X8_liveAll l mo A S σ sz hMo hR (by omega) (by omega) (by omega)) gX8_silentWithout_X8_liveAll rfl rfl rfl (by decide +kernel) ⟨Nat.le_of_ble_eq_true rfl, Nat.le_of_ble_eq_true rfl⟩ hMo.c0 rfl rfl rfl (Nat.le_of_ble_eq_true rfl) dX8_silentWithout_11 ⟨Nat.le_of_ble_eq_true rfl, Nat.le_of_ble_eq_true rfl⟩ (g_kxv0 (fun τ_1 H locs z1 hz hp hP hL hS => ?_))
    obtain ⟨hz1, ⟨B_1, hm_1, hr_1, hv_1⟩, ha_1⟩ := hp
    have hz := hz.trans hz1
    have hMo := hm_1
    have hag := hag.tr ha_1 (fun q h => h)
    have hR : Rr S (B_1 1) := by rw [hr_1 1 (by decide) (by decide)]; exact hR
    have hsc : ∀ j : Nat, j ≤ 6 → j ≠ 2 → B_1 j = A j := fun j h1 h2 => hr_1 j (by omega) (by omega)
    have hdo : ∀ i b : Nat, i < sN S → b < sB S → B_1 10 (96 * i + b) = nI (dosQ S i b) := fun i b h1 h2 => (hv_1 i b h2 (Or.inl h1)).1
    have hle : ∀ i b : Nat, i < sN S → b < sB S → B_1 11 (96 * i + b) = leS S i b := fun i b h1 h2 => (hv_1 i b h2 (Or.inl h1)).2
    refine lv_iconst (v := (nI 0)) hx hb dX8_silentWithout_14 (by decide) ?_
    refine lv_istore_n (lv' := [(2, .int (nI 0)), (0, .ref mo), (1, .int a1)]) hx hb dX8_silentWithout_15 rfl hl (by decide) rfl (fun ls hl => ?_)
    refine lv_iconst (v := (nI 0)) hx hb dX8_silentWithout_16 (by decide) ?_
    refine lv_istore_n (lv' := [(3, .int (nI 0)), (2, .int (nI 0)), (0, .ref mo), (1, .int a1)]) hx hb dX8_silentWithout_17 rfl hl (by decide) rfl (fun ls hl => ?_)
    have lp : ∀ (fu_lp : Nat) (k : Nat), (k ≤ sB S) → (sB S - k < fu_lp) → ∀ (H : Heap) (locs : List Loc) (ls : Array Slot), H.size = sz → gH D ka τ_1 H → va_S (gA lo) s.heap H locs → lv_has ls 5 [(0, .ref mo), (1, .int a1), (2, .int (nI (cntF (silB S (chR S 0) (tk a1)) k))), (3, .int (nI k))] → W p l e ({ frames := 5, cells := 0, slots := 0, locals := 113 } : Room) s m ([.ref mo, .int a1] : List Value).toArray below meth c H locs (0) (0) (MQ below (gQ D ka lo (gxi (fun r τ n => r = t_silent S a1 ∧ Me τ mo S tf tn P C kp ∧ n = sz ∧ gAs (gZo mo 16) σ τ))) ([.ref mo, .int a1] : List Value).toArray s 0 0 (gA lo)) (F0 m 18 ls []) := by
      intro fu_lp
      induction fu_lp with
      | zero => intro k hk hm_lp; exact absurd hm_lp (Nat.not_lt_zero _)
      | succ fu_lp ih_lp =>
        intro k hk hm_lp H locs ls hz hP hS hl
        refine lv_iload_n hx hb dX8_silentWithout_18 rfl (lv_at hl 3 rfl) ?_
        refine lv_aload_n hx hb dX8_silentWithout_19 rfl (lv_at hl 0 rfl) ?_
        refine g_runV (As := []) (rest := [.int (nI k)]) (own := RX8) (C := RX8) (T := TX8) (N := 20) 0 hx hb hml hown hts hK hz hP hL hS hlo hl.1 (c_X8_beats l mo B_1 S  τ_1 sz hMo hR) gX8_silentWithout_X8_beats rfl rfl rfl (by decide +kernel) ⟨Nat.le_of_ble_eq_true rfl, Nat.le_of_ble_eq_true rfl⟩ hMo.c0 rfl rfl rfl (Nat.le_of_ble_eq_true rfl) dX8_silentWithout_20 ⟨Nat.le_of_ble_eq_true rfl, Nat.le_of_ble_eq_true rfl⟩ (g_ki0 (fun H locs hz hP hL hS => ?_))
        refine g_icmp_ge (tgt := 76) (a := k) (b := sB S) hx hb (by omega) (by omega) dX8_silentWithout_23 (by decide) (fun c23 => ?_) (fun c23 => ?_)
        · refine lv_iload_n hx hb dX8_silentWithout_76 rfl (lv_at hl 2 rfl) ?_
          exact g_iret (z := sz) hx hb hr hlk hz hP hL hS dX8_silentWithout_77 (gxi_i ⟨by rw [t_silent, if_pos c5, show sB S = k by omega], ⟨_, hMo, MeP.scr hA hsc⟩, rfl, hag⟩)
        · refine lv_aload_n hx hb dX8_silentWithout_26 rfl (lv_at hl 0 rfl) ?_
          refine lv_iload_n hx hb dX8_silentWithout_27 rfl (lv_at hl 3 rfl) ?_
          refine lv_iconst (v := (nI 0)) hx hb dX8_silentWithout_28 (by decide) ?_
          refine g_runV (As := [.int (nI k), .int (nI 0)]) (rest := []) (own := RX8) (C := RX8) (T := TX8) (N := 20) 2 hx hb hml hown hts hK hz hP hL hS hlo hl.1 (c_X8_many l mo B_1 S k 0 τ_1 sz hMo hR (by omega) (by omega) (by omega)) gX8_silentWithout_X8_many rfl rfl rfl (by decide +kernel) ⟨Nat.le_of_ble_eq_true rfl, Nat.le_of_ble_eq_true rfl⟩ hMo.c0 rfl rfl rfl (Nat.le_of_ble_eq_true rfl) dX8_silentWithout_29 ⟨Nat.le_of_ble_eq_true rfl, Nat.le_of_ble_eq_true rfl⟩ (g_ki0 (fun H locs hz hP hL hS => ?_))
          refine lv_aload_n hx hb dX8_silentWithout_32 rfl (lv_at hl 0 rfl) ?_
          refine lv_iload_n hx hb dX8_silentWithout_33 rfl (lv_at hl 1 rfl) ?_
          refine g_top (y := (nI (tk a1))) ha1e ?_
          refine lv_iload_n hx hb dX8_silentWithout_34 rfl (lv_at hl 3 rfl) ?_
          refine g_runV (As := [.int (nI (tk a1)), .int (nI k)]) (rest := [.int (nI (cntF (fun i => decide (B_1 10 (96 * i + k) = nI 0)) (sN S)))]) (own := RX8) (C := RX8) (T := TX8) (N := 20) 2 hx hb hml hown hts hK hz hP hL hS hlo hl.1 (c_X8_doesAt l mo B_1 S (tk a1) k τ_1 sz hMo hR (by omega) (by omega) (by omega) (by omega)) gX8_silentWithout_X8_doesAt rfl rfl rfl (by decide +kernel) ⟨Nat.le_of_ble_eq_true rfl, Nat.le_of_ble_eq_true rfl⟩ hMo.c0 rfl rfl rfl (Nat.le_of_ble_eq_true rfl) dX8_silentWithout_35 ⟨Nat.le_of_ble_eq_true rfl, Nat.le_of_ble_eq_true rfl⟩ (g_ki0 (fun H locs hz hP hL hS => ?_))
          refine lv_if_ne (tgt := 45) hx hb dX8_silentWithout_38 (by decide) (fun c38 => ?_) (fun c38 => ?_)
          · refine lv_iconst (v := (nI 0)) hx hb dX8_silentWithout_45 (by decide) ?_
            have hcl := cntF_le (fun i => decide (B_1 10 (96 * i + k) = nI 0)) (sN S)
            refine lv_isub hx hb dX8_silentWithout_46 ?_
            refine g_top (pk_sub (by omega : 0 ≤ cntF (fun i => decide (B_1 10 (96 * i + k) = nI 0)) (sN S))) ?_
            refine lv_istore (lv' := [(4, .int (nI ((cntF (fun i => decide (B_1 10 (96 * i + k) = nI 0)) (sN S)) - 0))), (0, .ref mo), (1, .int a1), (2, .int (nI (cntF (silB S (chR S 0) (tk a1)) k))), (3, .int (nI k))]) hx hb dX8_silentWithout_47 hl (by decide) rfl (fun ls hl => ?_)
            refine lv_iload_n hx hb dX8_silentWithout_49 rfl (lv_at hl 3 rfl) ?_
            refine lv_aload_n hx hb dX8_silentWithout_50 rfl (lv_at hl 1 rfl) ?_
            refine lv_iload_n hx hb dX8_silentWithout_51 rfl (lv_at hl 4 rfl) ?_
            refine g_runV (As := [.int (nI k)]) (rest := [.int (nI (cntF (silB S (chR S 0) (tk a1)) k))]) (own := RX8) (C := RX8) (T := TX8) (N := 20) 1 hx hb hml hown hts hK hz hP hL hS hlo hl.1 (c_X8_isRest l mo B_1 S k τ_1 sz hMo hR (by omega) (by omega)) gX8_silentWithout_X8_isRest rfl rfl rfl (by decide +kernel) ⟨Nat.le_of_ble_eq_true rfl, Nat.le_of_ble_eq_true rfl⟩ hMo.c0 rfl rfl rfl (Nat.le_of_ble_eq_true rfl) dX8_silentWithout_52 ⟨Nat.le_of_ble_eq_true rfl, Nat.le_of_ble_eq_true rfl⟩ (g_ki0 (fun H locs hz hP hL hS => ?_))
            refine g_ifb_ne (tgt := 67) hx hb dX8_silentWithout_55 (by decide) (fun c55 => ?_) (fun c55 => ?_)
            · refine lv_iconst (v := (nI 0)) hx hb dX8_silentWithout_67 (by decide) ?_
              refine lv_iadd hx hb dX8_silentWithout_68 ?_
              refine g_top (nI_add (cntF (silB S (chR S 0) (tk a1)) k) 0) ?_
              refine lv_istore_n (lv' := [(2, .int (nI ((cntF (silB S (chR S 0) (tk a1)) k) + 0))), (4, .int (nI ((cntF (fun i => decide (B_1 10 (96 * i + k) = nI 0)) (sN S)) - 0))), (0, .ref mo), (1, .int a1), (3, .int (nI k))]) hx hb dX8_silentWithout_69 rfl hl (by decide) rfl (fun ls hl => ?_)
              refine lv_iinc (v := (nI (k + 1))) (lv' := [(3, .int (nI (k + 1))), (2, .int (nI ((cntF (silB S (chR S 0) (tk a1)) k) + 0))), (4, .int (nI ((cntF (fun i => decide (B_1 10 (96 * i + k) = nI 0)) (sN S)) - 0))), (0, .ref mo), (1, .int a1)]) hx hb dX8_silentWithout_70 hl (k := 4) rfl (g_inc k 1) (by decide) rfl (fun ls hl => ?_)
              refine lv_goto (tgt := 18) hx hb dX8_silentWithout_73 (by decide) ?_
              have e_2 : (nI ((cntF (silB S (chR S 0) (tk a1)) k) + 0)) = (nI (cntF (silB S (chR S 0) (tk a1)) (k + 1))) := (congrArg nI (cntF_f (p := silB S (chR S 0) (tk a1)) (by rw [silB, c55]; rfl)).symm)
              have hl := lv_sub hl (l' := [(0, .ref mo), (1, .int a1), (2, .int (nI ((cntF (silB S (chR S 0) (tk a1)) k) + 0))), (3, .int (nI (k + 1)))]) [3, 4, 1, 0] rfl
              rw [e_2] at hl
              exact ih_lp (k + 1) (by omega) (by omega) H locs ls hz hP hS hl
            · refine lv_iload hx hb dX8_silentWithout_58 (lv_at hl 0 rfl) ?_
              refine g_if_ne (tgt := 67) hx hb (by omega) dX8_silentWithout_60 (by decide) (fun c60 => ?_) (fun c60 => ?_)
              · refine lv_iconst (v := (nI 0)) hx hb dX8_silentWithout_67 (by decide) ?_
                refine lv_iadd hx hb dX8_silentWithout_68 ?_
                refine g_top (nI_add (cntF (silB S (chR S 0) (tk a1)) k) 0) ?_
                refine lv_istore_n (lv' := [(2, .int (nI ((cntF (silB S (chR S 0) (tk a1)) k) + 0))), (4, .int (nI ((cntF (fun i => decide (B_1 10 (96 * i + k) = nI 0)) (sN S)) - 0))), (0, .ref mo), (1, .int a1), (3, .int (nI k))]) hx hb dX8_silentWithout_69 rfl hl (by decide) rfl (fun ls hl => ?_)
                refine lv_iinc (v := (nI (k + 1))) (lv' := [(3, .int (nI (k + 1))), (2, .int (nI ((cntF (silB S (chR S 0) (tk a1)) k) + 0))), (4, .int (nI ((cntF (fun i => decide (B_1 10 (96 * i + k) = nI 0)) (sN S)) - 0))), (0, .ref mo), (1, .int a1)]) hx hb dX8_silentWithout_70 hl (k := 4) rfl (g_inc k 1) (by decide) rfl (fun ls hl => ?_)
                refine lv_goto (tgt := 18) hx hb dX8_silentWithout_73 (by decide) ?_
                have e_2 : (nI ((cntF (silB S (chR S 0) (tk a1)) k) + 0)) = (nI (cntF (silB S (chR S 0) (tk a1)) (k + 1))) := (congrArg nI (cntF_f (p := silB S (chR S 0) (tk a1)) (by rw [silB, c55, decide_eq_false (fun q => by have q2 := (sil_but ha1l hN (by omega)).mp q; rw [if_neg (c := decide (nI (dosQ S (tk a1) k) = nI 0) = true) (fun q => c38 ((hdo _ _ ha1l (by omega)).trans (of_decide_eq_true q))), ← cntF_c (p := fun i => decide (B_1 10 (96 * i + k) = nI 0)) (q := fun i => decide (nI (dosQ S i k) = nI 0)) (fun i hi => by rw [hdo i k hi (by omega)])] at q2; omega)]; rfl)).symm)
                have hl := lv_sub hl (l' := [(0, .ref mo), (1, .int a1), (2, .int (nI ((cntF (silB S (chR S 0) (tk a1)) k) + 0))), (3, .int (nI (k + 1)))]) [3, 4, 1, 0] rfl
                rw [e_2] at hl
                exact ih_lp (k + 1) (by omega) (by omega) H locs ls hz hP hS hl
              · refine lv_iconst (v := (nI 1)) hx hb dX8_silentWithout_63 (by decide) ?_
                refine lv_goto (tgt := 68) hx hb dX8_silentWithout_64 (by decide) ?_
                refine lv_iadd hx hb dX8_silentWithout_68 ?_
                refine g_top (nI_add (cntF (silB S (chR S 0) (tk a1)) k) 1) ?_
                refine lv_istore_n (lv' := [(2, .int (nI ((cntF (silB S (chR S 0) (tk a1)) k) + 1))), (4, .int (nI ((cntF (fun i => decide (B_1 10 (96 * i + k) = nI 0)) (sN S)) - 0))), (0, .ref mo), (1, .int a1), (3, .int (nI k))]) hx hb dX8_silentWithout_69 rfl hl (by decide) rfl (fun ls hl => ?_)
                refine lv_iinc (v := (nI (k + 1))) (lv' := [(3, .int (nI (k + 1))), (2, .int (nI ((cntF (silB S (chR S 0) (tk a1)) k) + 1))), (4, .int (nI ((cntF (fun i => decide (B_1 10 (96 * i + k) = nI 0)) (sN S)) - 0))), (0, .ref mo), (1, .int a1)]) hx hb dX8_silentWithout_70 hl (k := 4) rfl (g_inc k 1) (by decide) rfl (fun ls hl => ?_)
                refine lv_goto (tgt := 18) hx hb dX8_silentWithout_73 (by decide) ?_
                have e_2 : (nI ((cntF (silB S (chR S 0) (tk a1)) k) + 1)) = (nI (cntF (silB S (chR S 0) (tk a1)) (k + 1))) := (congrArg nI (cntF_t (p := silB S (chR S 0) (tk a1)) (by rw [silB, c55, decide_eq_true ((sil_but ha1l hN (by omega)).mpr (by rw [if_neg (c := decide (nI (dosQ S (tk a1) k) = nI 0) = true) (fun q => c38 ((hdo _ _ ha1l (by omega)).trans (of_decide_eq_true q))), ← cntF_c (p := fun i => decide (B_1 10 (96 * i + k) = nI 0)) (q := fun i => decide (nI (dosQ S i k) = nI 0)) (fun i hi => by rw [hdo i k hi (by omega)])]; omega))]; rfl)).symm)
                have hl := lv_sub hl (l' := [(0, .ref mo), (1, .int a1), (2, .int (nI ((cntF (silB S (chR S 0) (tk a1)) k) + 1))), (3, .int (nI (k + 1)))]) [3, 4, 1, 0] rfl
                rw [e_2] at hl
                exact ih_lp (k + 1) (by omega) (by omega) H locs ls hz hP hS hl
          · refine lv_iconst (v := (nI 1)) hx hb dX8_silentWithout_41 (by decide) ?_
            refine lv_goto (tgt := 46) hx hb dX8_silentWithout_42 (by decide) ?_
            have hcl := cntF_le (fun i => decide (B_1 10 (96 * i + k) = nI 0)) (sN S)
            have hcp := cntF_pos (p := (fun i => decide (B_1 10 (96 * i + k) = nI 0))) ha1l (decide_eq_true c38)
            refine lv_isub hx hb dX8_silentWithout_46 ?_
            refine g_top (pk_sub (by omega : 1 ≤ cntF (fun i => decide (B_1 10 (96 * i + k) = nI 0)) (sN S))) ?_
            refine lv_istore (lv' := [(4, .int (nI ((cntF (fun i => decide (B_1 10 (96 * i + k) = nI 0)) (sN S)) - 1))), (0, .ref mo), (1, .int a1), (2, .int (nI (cntF (silB S (chR S 0) (tk a1)) k))), (3, .int (nI k))]) hx hb dX8_silentWithout_47 hl (by decide) rfl (fun ls hl => ?_)
            refine lv_iload_n hx hb dX8_silentWithout_49 rfl (lv_at hl 3 rfl) ?_
            refine lv_aload_n hx hb dX8_silentWithout_50 rfl (lv_at hl 1 rfl) ?_
            refine lv_iload_n hx hb dX8_silentWithout_51 rfl (lv_at hl 4 rfl) ?_
            refine g_runV (As := [.int (nI k)]) (rest := [.int (nI (cntF (silB S (chR S 0) (tk a1)) k))]) (own := RX8) (C := RX8) (T := TX8) (N := 20) 1 hx hb hml hown hts hK hz hP hL hS hlo hl.1 (c_X8_isRest l mo B_1 S k τ_1 sz hMo hR (by omega) (by omega)) gX8_silentWithout_X8_isRest rfl rfl rfl (by decide +kernel) ⟨Nat.le_of_ble_eq_true rfl, Nat.le_of_ble_eq_true rfl⟩ hMo.c0 rfl rfl rfl (Nat.le_of_ble_eq_true rfl) dX8_silentWithout_52 ⟨Nat.le_of_ble_eq_true rfl, Nat.le_of_ble_eq_true rfl⟩ (g_ki0 (fun H locs hz hP hL hS => ?_))
            refine g_ifb_ne (tgt := 67) hx hb dX8_silentWithout_55 (by decide) (fun c55 => ?_) (fun c55 => ?_)
            · refine lv_iconst (v := (nI 0)) hx hb dX8_silentWithout_67 (by decide) ?_
              refine lv_iadd hx hb dX8_silentWithout_68 ?_
              refine g_top (nI_add (cntF (silB S (chR S 0) (tk a1)) k) 0) ?_
              refine lv_istore_n (lv' := [(2, .int (nI ((cntF (silB S (chR S 0) (tk a1)) k) + 0))), (4, .int (nI ((cntF (fun i => decide (B_1 10 (96 * i + k) = nI 0)) (sN S)) - 1))), (0, .ref mo), (1, .int a1), (3, .int (nI k))]) hx hb dX8_silentWithout_69 rfl hl (by decide) rfl (fun ls hl => ?_)
              refine lv_iinc (v := (nI (k + 1))) (lv' := [(3, .int (nI (k + 1))), (2, .int (nI ((cntF (silB S (chR S 0) (tk a1)) k) + 0))), (4, .int (nI ((cntF (fun i => decide (B_1 10 (96 * i + k) = nI 0)) (sN S)) - 1))), (0, .ref mo), (1, .int a1)]) hx hb dX8_silentWithout_70 hl (k := 4) rfl (g_inc k 1) (by decide) rfl (fun ls hl => ?_)
              refine lv_goto (tgt := 18) hx hb dX8_silentWithout_73 (by decide) ?_
              have e_2 : (nI ((cntF (silB S (chR S 0) (tk a1)) k) + 0)) = (nI (cntF (silB S (chR S 0) (tk a1)) (k + 1))) := (congrArg nI (cntF_f (p := silB S (chR S 0) (tk a1)) (by rw [silB, c55]; rfl)).symm)
              have hl := lv_sub hl (l' := [(0, .ref mo), (1, .int a1), (2, .int (nI ((cntF (silB S (chR S 0) (tk a1)) k) + 0))), (3, .int (nI (k + 1)))]) [3, 4, 1, 0] rfl
              rw [e_2] at hl
              exact ih_lp (k + 1) (by omega) (by omega) H locs ls hz hP hS hl
            · refine lv_iload hx hb dX8_silentWithout_58 (lv_at hl 0 rfl) ?_
              refine g_if_ne (tgt := 67) hx hb (by omega) dX8_silentWithout_60 (by decide) (fun c60 => ?_) (fun c60 => ?_)
              · refine lv_iconst (v := (nI 0)) hx hb dX8_silentWithout_67 (by decide) ?_
                refine lv_iadd hx hb dX8_silentWithout_68 ?_
                refine g_top (nI_add (cntF (silB S (chR S 0) (tk a1)) k) 0) ?_
                refine lv_istore_n (lv' := [(2, .int (nI ((cntF (silB S (chR S 0) (tk a1)) k) + 0))), (4, .int (nI ((cntF (fun i => decide (B_1 10 (96 * i + k) = nI 0)) (sN S)) - 1))), (0, .ref mo), (1, .int a1), (3, .int (nI k))]) hx hb dX8_silentWithout_69 rfl hl (by decide) rfl (fun ls hl => ?_)
                refine lv_iinc (v := (nI (k + 1))) (lv' := [(3, .int (nI (k + 1))), (2, .int (nI ((cntF (silB S (chR S 0) (tk a1)) k) + 0))), (4, .int (nI ((cntF (fun i => decide (B_1 10 (96 * i + k) = nI 0)) (sN S)) - 1))), (0, .ref mo), (1, .int a1)]) hx hb dX8_silentWithout_70 hl (k := 4) rfl (g_inc k 1) (by decide) rfl (fun ls hl => ?_)
                refine lv_goto (tgt := 18) hx hb dX8_silentWithout_73 (by decide) ?_
                have e_2 : (nI ((cntF (silB S (chR S 0) (tk a1)) k) + 0)) = (nI (cntF (silB S (chR S 0) (tk a1)) (k + 1))) := (congrArg nI (cntF_f (p := silB S (chR S 0) (tk a1)) (by rw [silB, c55, decide_eq_false (fun q => by have q2 := (sil_but ha1l hN (by omega)).mp q; rw [if_pos (c := decide (nI (dosQ S (tk a1) k) = nI 0) = true) (decide_eq_true ((hdo _ _ ha1l (by omega)).symm.trans c38)), ← cntF_c (p := fun i => decide (B_1 10 (96 * i + k) = nI 0)) (q := fun i => decide (nI (dosQ S i k) = nI 0)) (fun i hi => by rw [hdo i k hi (by omega)])] at q2; omega)]; rfl)).symm)
                have hl := lv_sub hl (l' := [(0, .ref mo), (1, .int a1), (2, .int (nI ((cntF (silB S (chR S 0) (tk a1)) k) + 0))), (3, .int (nI (k + 1)))]) [3, 4, 1, 0] rfl
                rw [e_2] at hl
                exact ih_lp (k + 1) (by omega) (by omega) H locs ls hz hP hS hl
              · refine lv_iconst (v := (nI 1)) hx hb dX8_silentWithout_63 (by decide) ?_
                refine lv_goto (tgt := 68) hx hb dX8_silentWithout_64 (by decide) ?_
                refine lv_iadd hx hb dX8_silentWithout_68 ?_
                refine g_top (nI_add (cntF (silB S (chR S 0) (tk a1)) k) 1) ?_
                refine lv_istore_n (lv' := [(2, .int (nI ((cntF (silB S (chR S 0) (tk a1)) k) + 1))), (4, .int (nI ((cntF (fun i => decide (B_1 10 (96 * i + k) = nI 0)) (sN S)) - 1))), (0, .ref mo), (1, .int a1), (3, .int (nI k))]) hx hb dX8_silentWithout_69 rfl hl (by decide) rfl (fun ls hl => ?_)
                refine lv_iinc (v := (nI (k + 1))) (lv' := [(3, .int (nI (k + 1))), (2, .int (nI ((cntF (silB S (chR S 0) (tk a1)) k) + 1))), (4, .int (nI ((cntF (fun i => decide (B_1 10 (96 * i + k) = nI 0)) (sN S)) - 1))), (0, .ref mo), (1, .int a1)]) hx hb dX8_silentWithout_70 hl (k := 4) rfl (g_inc k 1) (by decide) rfl (fun ls hl => ?_)
                refine lv_goto (tgt := 18) hx hb dX8_silentWithout_73 (by decide) ?_
                have e_2 : (nI ((cntF (silB S (chR S 0) (tk a1)) k) + 1)) = (nI (cntF (silB S (chR S 0) (tk a1)) (k + 1))) := (congrArg nI (cntF_t (p := silB S (chR S 0) (tk a1)) (by rw [silB, c55, decide_eq_true ((sil_but ha1l hN (by omega)).mpr (by rw [if_pos (c := decide (nI (dosQ S (tk a1) k) = nI 0) = true) (decide_eq_true ((hdo _ _ ha1l (by omega)).symm.trans c38)), ← cntF_c (p := fun i => decide (B_1 10 (96 * i + k) = nI 0)) (q := fun i => decide (nI (dosQ S i k) = nI 0)) (fun i hi => by rw [hdo i k hi (by omega)])]; omega))]; rfl)).symm)
                have hl := lv_sub hl (l' := [(0, .ref mo), (1, .int a1), (2, .int (nI ((cntF (silB S (chR S 0) (tk a1)) k) + 1))), (3, .int (nI (k + 1)))]) [3, 4, 1, 0] rfl
                rw [e_2] at hl
                exact ih_lp (k + 1) (by omega) (by omega) H locs ls hz hP hS hl
    exact lp _ 0 (by omega) (Nat.lt_succ_self _) H locs ls hz hP hS (lv_sub hl [2, 3, 1, 0] rfl)
  · have c5 : inN a1 (sN S) = false := by simpa using c5
    refine lv_iconst (v := (-1)) hx hb dX8_silentWithout_8 (by decide) ?_
    exact g_iret (z := sz) hx hb hr hlk hz hP hL hS dX8_silentWithout_9 (gxi_i ⟨by rw [t_silent, if_neg (nb c5)], ⟨_, hMo, hA⟩, rfl, hag⟩)
