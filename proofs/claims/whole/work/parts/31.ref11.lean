/-! the plan -/
theorem suF_add (f g : Nat → Nat) : ∀ n, suF (fun i => f i + g i) n = suF f n + suF g n
  | 0 => rfl
  | n + 1 => by rw [suF, suF, suF, suF_add f g n]; omega
theorem suF_c {f g : Nat → Nat} {n : Nat} (h : ∀ i, i < n → f i = g i) : suF f n = suF g n := by
  induction n with
  | zero => rfl
  | succ n ih => rw [suF, suF, ih (fun i hi => h i (by omega)), h n (by omega)]
theorem suF_if (p : Nat → Bool) : ∀ n, suF (fun i => if p i = true then 1 else 0) n = cntF p n
  | 0 => rfl
  | n + 1 => by rw [suF, cntF, suF_if p n]
theorem suF_swap (p : Nat → Nat → Bool) (N : Nat) : ∀ B, suF (fun i => cntF (p i) B) N = suF (fun b => cntF (fun i => p i b) N) B
  | 0 => by
    rw [suF]
    induction N with
    | zero => rfl
    | succ N ih => rw [suF, ih]; rfl
  | B + 1 => by
    rw [suF, ← suF_swap p N B, ← suF_if (fun i => p i B) N, ← suF_add]
    rfl
theorem smI_su {f : Nat → Int32} {g : Nat → Nat} : ∀ {n : Nat}, (∀ b, b < n → f b = nI (g b)) → smI f n = nI (suF g n)
  | 0, _ => rfl
  | n + 1, h => by rw [smI, smI_su (fun b hb => h b (by omega)), h n (by omega), suF]; exact nI_add _ _
theorem marks_two {V : sS} (hN : sN V ≤ 12) (h : ∀ b, b < sB V → smB (V 2 b) (sN V)) : smI (fun b => bcI (V 2 b)) (sB V) = nI (suF (fun i => cntF (fun b => markB V i b) (sB V)) (sN V)) := by
  rw [smI_su (g := fun b => cntF (fun i => markB V i b) (sN V)) (fun b hb => bcI_n (h b hb) hN), suF_swap (fun i b => markB V i b)]
theorem pr0 {S : sS} (h : smB (S 8 2) (sN S)) : S 8 2 = 0 ↔ cntF (presB S) (sN S) = 0 := by
  rw [cntF_0]
  constructor
  · intro e s hs
    show hasB (S 8 2) s = false
    rw [e]; exact hb_0 s
  · intro hz
    apply hb_ext
    intro s hs
    rw [hb_0]
    by_cases c : s < sN S
    · exact hz s c
    · exact h s (by omega) hs
theorem shP_c {S : sS} {lf lf2 : Nat → Int32} {ned g : Int32} : ∀ {n : Nat}, (∀ i, i < n → lf i = lf2 i) → shP S lf ned g n = shP S lf2 ned g n
  | 0, _ => rfl
  | n + 1, h => by rw [shP, shP, shP_c (fun i hi => h i (by omega)), h n (by omega)]
theorem nxtF_c {S : sS} {lf lf2 : Nat → Int32} {ned g : Int32} (h : ∀ i, i < sN S → lf i = lf2 i) : nxtF S lf ned g = nxtF S lf2 ned g := by rw [nxtF, nxtF, shP_c h]
theorem firstK_c {p q : Nat → Bool} : ∀ {n k : Nat}, (∀ i, k ≤ i → i < k + n → p i = q i) → firstK p n k = firstK q n k
  | 0, _, _ => rfl
  | n + 1, k, h => by rw [firstK, firstK, h k (Nat.le_refl k) (by omega), firstK_c (n := n) (fun i h1 h2 => h i (by omega) (by omega))]
theorem canF_c {S : sS} {lf lf2 : Nat → Int32} {g : Int32} {b : Nat} (h : ∀ i, i < sN S → lf i = lf2 i) : canF S lf g b = canF S lf2 g b := by
  rw [canF, canF, firstK_c (p := canP S lf g b) (q := canP S lf2 g b) (fun i h1 h2 => by simp only [canP]; rw [h i (by omega)])]
theorem chzF_c {S : sS} {lf lf2 : Nat → Int32} {ned : Int32} {b : Nat} (h : ∀ i, i < sN S → lf i = lf2 i) : ∀ t g, chzF S lf ned b t g = chzF S lf2 ned b t g
  | 0, _ => rfl
  | t + 1, g => by
    rw [chzF, chzF, nxtF_c h]
    cases nxtF S lf2 ned g with
    | none => rfl
    | some i => simp only []; rw [canF_c h, chzF_c h t]
theorem choF_c {S : sS} {lf lf2 : Nat → Int32} {b np : Nat} (h : ∀ i, i < sN S → lf i = lf2 i) : choF S lf b np = choF S lf2 b np := by rw [choF, choF, chzF_c h]
theorem chz_sm {S : sS} {lf : Nat → Int32} {ned : Int32} {b : Nat} (hN : sN S ≤ 12) : ∀ t g, smB g (sN S) → smB (chzF S lf ned b t g) (sN S)
  | 0, _, h => h
  | t + 1, g, h => by
    rw [chzF]
    cases e : nxtF S lf ned g with
    | none => exact h
    | some i =>
      simp only []
      have hi : i < sN S := shP_lt e
      split
      · exact chz_sm hN t _ (smB_or h hi (by omega))
      · exact h
theorem plF_sm {S : sS} {np : Nat} (hN : sN S ≤ 12) : ∀ n b, smB ((plF S np n).1 b) (sN S)
  | 0, b => smB_0 _
  | n + 1, b => by
    rw [plF]
    show smB ((if restB S n = false ∧ soloF S n = none then _ else _ : Nat → Int32) b) (sN S)
    split
    · by_cases c : b = n
      · rw [c, upd_s]; exact chz_sm (S := sRow S 2 (plF S np n).1) hN _ _ (smB_0 _)
      · rw [upd_n c]; exact plF_sm hN n b
    · exact plF_sm hN n b
theorem plF_z {S : sS} {np : Nat} : ∀ n b, n ≤ b → (plF S np n).1 b = 0
  | 0, b, _ => rfl
  | n + 1, b, h => by
    rw [plF]
    show (if restB S n = false ∧ soloF S n = none then _ else _ : Nat → Int32) b = 0
    split
    · rw [upd_n (by omega)]; exact plF_z n b (by omega)
    · exact plF_z n b (by omega)
theorem Rr.clr {S : sS} {f : Nat → Int32} (h : Rr S f) (hk : okS S) : Rr (sRow S 2 (fun _ => 0)) (filF f 232 268 0) := by
  obtain ⟨hB, hN, hK, hR⟩ := hk
  refine ⟨⟨by rw [filF_out (by omega)]; exact h.b0, by rw [filF_out (by omega)]; exact h.n1, by rw [filF_out (by omega)]; exact h.k2, by rw [filF_out (by omega)]; exact h.r3⟩, fun b hb => ⟨?_, ?_⟩, fun i j hi hj => ?_, fun i b hi hb => ?_, fun k2 j hk2 hj => ?_⟩
  · have hb : b < sB S := hb
    rw [filF_out (by omega)]; exact h.so hb
  · have hb : b < sB S := hb
    rw [filF_out (by omega)]; exact h.lo hb
  · have hi : i < sN S := hi
    rw [filF_out (by omega)]; exact h.si hi hj
  · have hi : i < sN S := hi
    have hb : b < sB S := hb
    rw [filF_in (by omega), hb_0]
    show false = hasB (sRow S 2 (fun _ => 0) 2 b) i
    rw [sRow_s, hb_0]
  · have hk2 : k2 < sK S := hk2
    have e : sRow S 2 (fun _ => 0) (5 + j) = S (5 + j) := sRow_n (by omega)
    rw [filF_out (by omega), e]; exact h.ks hk2 hj
abbrev plA (S : sS) (np n : Nat) : sS := sRow S 2 (plF S np n).1
/-- what is left ahead of beat n, in the reference's row, for the first N singers -/
def plL0 (S A : sS) (np n : Nat) : Prop := ∀ i, i < sN S → laI S A i n = (plF S np n).2 i
theorem gtF_1c {S : sS} {b : Nat} {lf lf2 : Nat → Int32} {i : Nat} (h : lf i = lf2 i) : gtF S b lf i = gtF S b lf2 i := by rw [gtF, gtF, h]
theorem pl_la {S A : sS} {np n i : Nat} (h : plL0 S A np n) (hn : n < 96) : plL0 S (livA (plA S np (n + 1)) A i n) np n := fun j hj => by
  rw [← h j hj, laI, laI]
  by_cases c : n = 0
  · rw [if_pos c, if_pos c]
  · rw [if_neg c, if_neg c]
    show upd (A 11) (96 * i + n) _ (96 * j + n - 1) = _
    rw [upd_n (by omega)]
theorem pl_in {S A : sS} {np n i : Nat} (h : plL0 S A np n) (hin : ∀ j : Nat, j < i → A 11 (96 * j + n) = (plF S np (n + 1)).2 j) (hi : i < sN S) : ∀ j : Nat, j < i + 1 → livA (plA S np (n + 1)) A i n 11 (96 * j + n) = (plF S np (n + 1)).2 j := fun j hj => by
  have e : livA (plA S np (n + 1)) A i n 11 = upd (A 11) (96 * i + n) (gtF (plA S np (n + 1)) n (fun i => laI (plA S np (n + 1)) A i n) i) := rfl
  rw [e]
  by_cases c : j = i
  · subst c
    rw [upd_s, plL, cpyF, if_pos hi]
    exact gtF_1c (h j hi)
  · rw [upd_n (by omega)]; exact hin j (by omega)
set_option maxHeartbeats 4000000 in
set_option maxRecDepth 100000 in
theorem c_X8_make (l : Launch) (mo : Nat) (S : sS) (tf : Nat → Int32) (tn P : Nat) (C : Nat → sS) (kp : Nat → Bool) (np : Nat) (σ : gS) (sz : Nat) (hW : Me σ mo S tf tn P C kp) (hok : okS S) (hokC : ∀ k : Nat, k < P → okS (C k)) (hpb : smB (S 8 2) (sN S)) (hnp : cntF (presB S) (sN S) = np) (hnp2 : np ≤ 12) : gM l yX8_make wsX8_make ({ frames := 4, cells := 0, slots := 0, locals := 93 } : Room) 0 0 [.ref mo] σ sz (gxi (fun r τ n => mP mo σ S tf tn P C kp sz (o_make S np) r τ n)) := by
  refine gM_of (cc := cX8_make) (maxL := 3) (ret := (some .int)) (by decide) rfl (Nat.le_of_ble_eq_true rfl) ?_
  intro D ka lo hL hlo p e s m below meth c hx hb hr hts hown hml hlk hnm hK H locs ls hz hP hS hl
  have hl : lv_has ls 3 [(0, .ref mo)] := hl
  have hown : s.vm.findClass RX8 = some m.cls := hown
  obtain ⟨A, hMo, hA⟩ := hW
  have hR := hA.2.2.1
  have hR0 := hR
  have hP0 := hA.1
  have htn0 := hA.2.1
  have hP5 : P ≤ 5 := hA.2.2.2.2.2.2.2.2
  have htn : tn ≤ 60 := hA.2.2.2.2.2.2.2.1
  obtain ⟨hB, hN, hKs, hRs⟩ := id hok
  have hag : gAs (gZo mo 16) σ σ := gAs.rf
  refine lv_aload_n hx hb dX8_make_0 rfl (lv_at hl 0 rfl) ?_
  refine g_runV (As := []) (rest := []) (own := RX8) (C := RX8) (T := TX8) (N := 20) 0 hx hb hml hown hts hK hz hP hL hS hlo hl.1 (c_X8_presentOnes l mo A S  σ sz hMo hR (by omega)) gX8_make_X8_presentOnes rfl rfl rfl (by decide +kernel) ⟨Nat.le_of_ble_eq_true rfl, Nat.le_of_ble_eq_true rfl⟩ hMo.c0 rfl rfl rfl (Nat.le_of_ble_eq_true rfl) dX8_make_1 ⟨Nat.le_of_ble_eq_true rfl, Nat.le_of_ble_eq_true rfl⟩ (g_ki0 (fun H locs hz hP hL hS => ?_))
  refine g_top (y := (nI np)) (congrArg nI hnp) ?_
  refine g_if_eq (tgt := 14) hx hb (by omega) dX8_make_4 (by decide) (fun c4 => ?_) (fun c4 => ?_)
  · refine lv_bipush (v := (-4)) hx hb dX8_make_14 (by decide) ?_
    exact g_iret (z := sz) hx hb hr hlk hz hP hL hS dX8_make_16 (gxi_i (mP_n (by rw [o_make, if_pos ((pr0 hpb).mpr (by omega))]) ⟨_, hMo, hA⟩ rfl hag))
  · refine lv_aload_n hx hb dX8_make_7 rfl (lv_at hl 0 rfl) ?_
    refine g_runV (As := []) (rest := []) (own := RX8) (C := RX8) (T := TX8) (N := 20) 0 hx hb hml hown hts hK hz hP hL hS hlo hl.1 (c_X8_beats l mo A S  σ sz hMo hR) gX8_make_X8_beats rfl rfl rfl (by decide +kernel) ⟨Nat.le_of_ble_eq_true rfl, Nat.le_of_ble_eq_true rfl⟩ hMo.c0 rfl rfl rfl (Nat.le_of_ble_eq_true rfl) dX8_make_8 ⟨Nat.le_of_ble_eq_true rfl, Nat.le_of_ble_eq_true rfl⟩ (g_ki0 (fun H locs hz hP hL hS => ?_))
    refine g_if_ne (tgt := 17) hx hb (by omega) dX8_make_11 (by decide) (fun c11 => ?_) (fun c11 => ?_)
    · refine lv_aload_n hx hb dX8_make_17 rfl (lv_at hl 0 rfl) ?_
      refine g_runV (As := []) (rest := []) (own := RX8) (C := RX8) (T := TX8) (N := 20) 0 hx hb hml hown hts hK hz hP hL hS hlo hl.1 (c_X8_begin l mo A σ sz hMo) gX8_make_X8_begin rfl rfl rfl (by decide +kernel) ⟨Nat.le_of_ble_eq_true rfl, Nat.le_of_ble_eq_true rfl⟩ hMo.c0 rfl rfl rfl (Nat.le_of_ble_eq_true rfl) dX8_make_18 ⟨Nat.le_of_ble_eq_true rfl, Nat.le_of_ble_eq_true rfl⟩ (g_kxv0 (fun τ_1 H locs z1 hz hp hP hL hS => ?_))
      obtain ⟨hz1, ⟨A_1, hm_1, hb_1, hr_1⟩, ha_1⟩ := hp
      have hz := hz.trans hz1
      have hMo := hm_1
      have hag := hag.tr ha_1 (fun q h => h)
      have hR : Rr S (A_1 1) := by rw [hr_1 1 (by decide)]; exact hR
      refine lv_aload_n hx hb dX8_make_21 rfl (lv_at hl 0 rfl) ?_
      refine g_runV (As := []) (rest := []) (own := RX8) (C := RX8) (T := TX8) (N := 20) 0 hx hb hml hown hts hK hz hP hL hS hlo hl.1 (c_X8_clearMarks l mo A_1 τ_1 sz hMo) gX8_make_X8_clearMarks rfl rfl rfl (by decide +kernel) ⟨Nat.le_of_ble_eq_true rfl, Nat.le_of_ble_eq_true rfl⟩ hMo.c0 rfl rfl rfl (Nat.le_of_ble_eq_true rfl) dX8_make_22 ⟨Nat.le_of_ble_eq_true rfl, Nat.le_of_ble_eq_true rfl⟩ (g_kxv0 (fun τ_2 H locs z1 hz hp hP hL hS => ?_))
      obtain ⟨hz1, hm_2, ha_2⟩ := hp
      have hz := hz.trans hz1
      have hMo := hm_2
      have hag := hag.tr ha_2 (fun q h => h)
      obtain ⟨A0, hMo, hR, hA0r⟩ : ∃ A0 : sS, MoAt τ_2 mo A0 ∧ Rr (plA S np 0) (A0 1) ∧ (∀ j : Nat, j ≠ 1 → A0 j = A_1 j) := ⟨_, hMo, by rw [sRow_s]; exact hR.clr hok, fun j hj => sRow_n hj⟩
      refine lv_iconst (v := (nI 0)) hx hb dX8_make_25 (by decide) ?_
      refine lv_istore_n (lv' := [(1, .int (nI 0)), (0, .ref mo)]) hx hb dX8_make_26 rfl hl (by decide) rfl (fun ls hl => ?_)
      have lp : ∀ (fu_lp : Nat) (n : Nat), (n ≤ sB S) → (sB S - n < fu_lp) → ∀ (υ : gS), (∃ A2 : sS, MoAt υ mo A2 ∧ Rr (plA S np n) (A2 1) ∧ (∀ j : Nat, j ≠ 1 → (j < 10 ∨ 12 < j) → A2 j = A_1 j) ∧ plL0 S A2 np n) → (gAs (gZo mo 16) σ υ) → gL lo υ → ∀ (H : Heap) (locs : List Loc) (ls : Array Slot), H.size = sz → gH D ka υ H → va_S (gA lo) s.heap H locs → lv_has ls 3 [(0, .ref mo), (1, .int (nI n))] → W p l e ({ frames := 4, cells := 0, slots := 0, locals := 93 } : Room) s m ([.ref mo] : List Value).toArray below meth c H locs (0) (0) (MQ below (gQ D ka lo (gxi (fun r τ n => mP mo σ S tf tn P C kp sz (o_make S np) r τ n))) ([.ref mo] : List Value).toArray s 0 0 (gA lo)) (F0 m 27 ls []) := by
        intro fu_lp
        induction fu_lp with
        | zero => intro n hn hm_lp; exact absurd hm_lp (Nat.not_lt_zero _)
        | succ fu_lp ih_lp =>
          intro n hn hm_lp υ hEx hag hL H locs ls hz hP hS hl
          obtain ⟨A3, hMo, hR, hAr, hpl⟩ := hEx
          have hB9 : sB (plA S np n) = sB S := rfl
          have hN9 : sN (plA S np n) = sN S := rfl
          have hR9 : sR (plA S np n) = sR S := rfl
          have hK9 : sK (plA S np n) = sK S := rfl
          refine lv_iload_n hx hb dX8_make_27 rfl (lv_at hl 1 rfl) ?_
          refine lv_aload_n hx hb dX8_make_28 rfl (lv_at hl 0 rfl) ?_
          refine g_runV (As := []) (rest := [.int (nI n)]) (own := RX8) (C := RX8) (T := TX8) (N := 20) 0 hx hb hml hown hts hK hz hP hL hS hlo hl.1 (c_X8_beats l mo A3 (plA S np n)  υ sz hMo hR) gX8_make_X8_beats rfl rfl rfl (by decide +kernel) ⟨Nat.le_of_ble_eq_true rfl, Nat.le_of_ble_eq_true rfl⟩ hMo.c0 rfl rfl rfl (Nat.le_of_ble_eq_true rfl) dX8_make_29 ⟨Nat.le_of_ble_eq_true rfl, Nat.le_of_ble_eq_true rfl⟩ (g_ki0 (fun H locs hz hP hL hS => ?_))
          refine g_icmp_ge (tgt := 84) (a := n) (b := sB (plA S np n)) hx hb (by omega) (by omega) dX8_make_32 (by decide) (fun c32 => ?_) (fun c32 => ?_)
          · have hnB : n = sB S := by omega
            have hR : Rr (planS S np) (A3 1) := by rw [hnB] at hR; exact hR
            have hB8 : sB (planS S np) = sB S := rfl
            have hN8 : sN (planS S np) = sN S := rfl
            have hbx : ∀ j : Nat, j < 292 → A3 2 j = A 1 j := fun j hj => by rw [hAr 2 (by decide) (by decide)]; exact hb_1 j hj
            have hkx : ∀ i : Nat, 3 ≤ i → i ≤ 6 → A3 i = A i := fun i h1 h2 => (hAr i (by omega) (by omega)).trans (hr_1 i (by omega))
            have h0x : A3 0 = A 0 := (hAr 0 (by decide) (by decide)).trans (hr_1 0 (by decide))
            have hP0 : tN A3 0 = P := by show (A3 0 0).toNatClampNeg = P; rw [h0x]; exact hP0
            refine lv_aload_n hx hb dX8_make_84 rfl (lv_at hl 0 rfl) ?_
            refine lv_aload_n hx hb dX8_make_85 rfl (lv_at hl 0 rfl) ?_
            refine g_runV (As := []) (rest := [.ref mo]) (own := RX8) (C := RX8) (T := TX8) (N := 20) 0 hx hb hml hown hts hK hz hP hL hS hlo hl.1 (c_X8_allMarks l mo A3 (planS S np)  υ sz hMo hR (by omega) (by omega)) gX8_make_X8_allMarks rfl rfl rfl (by decide +kernel) ⟨Nat.le_of_ble_eq_true rfl, Nat.le_of_ble_eq_true rfl⟩ hMo.c0 rfl rfl rfl (Nat.le_of_ble_eq_true rfl) dX8_make_86 ⟨Nat.le_of_ble_eq_true rfl, Nat.le_of_ble_eq_true rfl⟩ (g_ki0 (fun H locs hz hP hL hS => ?_))
            refine g_top (y := (smI (fun b => bcI (planS S np 2 b)) (sB (planS S np)))) ((marks_two (V := planS S np) hN (fun b hb => by show smB (sRow S 2 (plF S np (sB S)).1 2 b) (sN S); rw [sRow_s]; exact plF_sm hN _ b)).symm) ?_
            refine g_runV (As := [.int (smI (fun b => bcI (planS S np 2 b)) (sB (planS S np)))]) (rest := []) (own := RX8) (C := RX8) (T := TX8) (N := 20) 1 hx hb hml hown hts hK hz hP hL hS hlo hl.1 (c_X8_done l mo A3 P ((smI (fun b => bcI (planS S np 2 b)) (sB (planS S np)))) υ sz hMo (by first | exact hP0 | (show tN A_1 0 = P; show (A_1 0 0).toNatClampNeg = P; rw [hr_1 0 (by decide)]; exact hP0)) hP5) gX8_make_X8_done rfl rfl rfl (by decide +kernel) ⟨Nat.le_of_ble_eq_true rfl, Nat.le_of_ble_eq_true rfl⟩ hMo.c0 rfl rfl rfl (Nat.le_of_ble_eq_true rfl) dX8_make_89 ⟨Nat.le_of_ble_eq_true rfl, Nat.le_of_ble_eq_true rfl⟩ (g_kxi0 (fun r_4 τ_4 H locs z1 hz hp hP hL hS => ?_))
            obtain ⟨hr9_4, hz1, ⟨D_4, hm_4, hd1_4, hd2_4, hd3_4, hd4_4⟩, ha_4⟩ := hp
            have hz := hz.trans hz1
            have hMo := hm_4
            have hag := hag.tr ha_4 (fun q h => h)
            subst hr9_4
            exact g_iret (z := sz) hx hb hr hlk hz hP hL hS dX8_make_92 (gxi_i (mP_s (by rw [o_make, if_neg (fun q => by have := (pr0 hpb).mp q; omega), if_neg (by omega)]) ⟨_, hMo, MeP.done hA hok hokC (fun j hj => by first | exact hb_1 j hj | exact hbx j hj) (fun i h1 h2 => hkx i h1 h2) (by first | exact hr_1 0 (by decide) | exact h0x) hR hd1_4 hd2_4 hd3_4 hd4_4⟩ rfl hag))
          · refine lv_aload_n hx hb dX8_make_35 rfl (lv_at hl 0 rfl) ?_
            refine lv_iload_n hx hb dX8_make_36 rfl (lv_at hl 1 rfl) ?_
            refine g_runV (As := [.int (nI n)]) (rest := []) (own := RX8) (C := RX8) (T := TX8) (N := 20) 1 hx hb hml hown hts hK hz hP hL hS hlo hl.1 (c_X8_isRest l mo A3 (plA S np n) n υ sz hMo hR (by omega) (by omega)) gX8_make_X8_isRest rfl rfl rfl (by decide +kernel) ⟨Nat.le_of_ble_eq_true rfl, Nat.le_of_ble_eq_true rfl⟩ hMo.c0 rfl rfl rfl (Nat.le_of_ble_eq_true rfl) dX8_make_37 ⟨Nat.le_of_ble_eq_true rfl, Nat.le_of_ble_eq_true rfl⟩ (g_ki0 (fun H locs hz hP hL hS => ?_))
            refine g_ifb_ne (tgt := 56) hx hb dX8_make_40 (by decide) (fun c40 => ?_) (fun c40 => ?_)
            · have hR : Rr (plA S np (n + 1)) (A3 1) := by rw [plA, plM_1 (S := S) c40]; exact hR
              have hB9 : sB (plA S np (n + 1)) = sB S := rfl
              have hN9 : sN (plA S np (n + 1)) = sN S := rfl
              have hR9 : sR (plA S np (n + 1)) = sR S := rfl
              have hK9 : sK (plA S np (n + 1)) = sK S := rfl
              refine lv_iconst (v := (nI 0)) hx hb dX8_make_56 (by decide) ?_
              refine lv_istore_n (lv' := [(2, .int (nI 0)), (0, .ref mo), (1, .int (nI n))]) hx hb dX8_make_57 rfl hl (by decide) rfl (fun ls hl => ?_)
              have lq : ∀ (fu_lq : Nat) (i : Nat), (i ≤ sN S) → (sN S - i < fu_lq) → ∀ (υ : gS), (∃ A2 : sS, MoAt υ mo A2 ∧ Rr (plA S np (n + 1)) (A2 1) ∧ (∀ j : Nat, j ≠ 1 → (j < 10 ∨ 12 < j) → A2 j = A_1 j) ∧ plL0 S A2 np n ∧ (∀ j : Nat, j < i → A2 11 (96 * j + n) = (plF S np (n + 1)).2 j)) → (gAs (gZo mo 16) σ υ) → gL lo υ → ∀ (H : Heap) (locs : List Loc) (ls : Array Slot), H.size = sz → gH D ka υ H → va_S (gA lo) s.heap H locs → lv_has ls 3 [(0, .ref mo), (1, .int (nI n)), (2, .int (nI i))] → W p l e ({ frames := 4, cells := 0, slots := 0, locals := 93 } : Room) s m ([.ref mo] : List Value).toArray below meth c H locs (0) (0) (MQ below (gQ D ka lo (gxi (fun r τ n => mP mo σ S tf tn P C kp sz (o_make S np) r τ n))) ([.ref mo] : List Value).toArray s 0 0 (gA lo)) (F0 m 58 ls []) := by
                intro fu_lq
                induction fu_lq with
                | zero => intro i hi hm_lq; exact absurd hm_lq (Nat.not_lt_zero _)
                | succ fu_lq ih_lq =>
                  intro i hi hm_lq υ hEx hag hL H locs ls hz hP hS hl
                  obtain ⟨A5, hMo, hR, hAr, hpl, hin⟩ := hEx
                  have hB9 : sB (plA S np (n + 1)) = sB S := rfl
                  have hN9 : sN (plA S np (n + 1)) = sN S := rfl
                  have hR9 : sR (plA S np (n + 1)) = sR S := rfl
                  have hK9 : sK (plA S np (n + 1)) = sK S := rfl
                  refine lv_iload_n hx hb dX8_make_58 rfl (lv_at hl 2 rfl) ?_
                  refine lv_aload_n hx hb dX8_make_59 rfl (lv_at hl 0 rfl) ?_
                  refine g_runV (As := []) (rest := [.int (nI i)]) (own := RX8) (C := RX8) (T := TX8) (N := 20) 0 hx hb hml hown hts hK hz hP hL hS hlo hl.1 (c_X8_singers l mo A5 (plA S np (n + 1))  υ sz hMo hR) gX8_make_X8_singers rfl rfl rfl (by decide +kernel) ⟨Nat.le_of_ble_eq_true rfl, Nat.le_of_ble_eq_true rfl⟩ hMo.c0 rfl rfl rfl (Nat.le_of_ble_eq_true rfl) dX8_make_60 ⟨Nat.le_of_ble_eq_true rfl, Nat.le_of_ble_eq_true rfl⟩ (g_ki0 (fun H locs hz hP hL hS => ?_))
                  refine g_icmp_ge (tgt := 78) (a := i) (b := sN (plA S np (n + 1))) hx hb (by omega) (by omega) dX8_make_63 (by decide) (fun c63 => ?_) (fun c63 => ?_)
                  · refine lv_iinc (v := (nI (n + 1))) (lv' := [(1, .int (nI (n + 1))), (0, .ref mo), (2, .int (nI i))]) hx hb dX8_make_78 hl (k := 1) rfl (g_inc n 1) (by decide) rfl (fun ls hl => ?_)
                    refine lv_goto (tgt := 27) hx hb dX8_make_81 (by decide) ?_
                    exact ih_lp (n + 1) (by omega) (by omega) υ ⟨_, hMo, hR, hAr, fun j hj => by rw [laI, if_neg (by omega)]; exact hin j (by omega)⟩ hag hL H locs ls hz hP hS (lv_sub hl [1, 0] rfl)
                  · refine lv_aload_n hx hb dX8_make_66 rfl (lv_at hl 0 rfl) ?_
                    refine lv_iload_n hx hb dX8_make_67 rfl (lv_at hl 2 rfl) ?_
                    refine lv_iload_n hx hb dX8_make_68 rfl (lv_at hl 1 rfl) ?_
                    refine g_runV (As := [.int (nI i), .int (nI n)]) (rest := []) (own := RX8) (C := RX8) (T := TX8) (N := 20) 2 hx hb hml hown hts hK hz hP hL hS hlo hl.1 (c_X8_live l mo A5 (plA S np (n + 1)) i n υ sz hMo hR (by omega) (by omega) (by omega) (by omega) (by omega)) gX8_make_X8_live rfl rfl rfl (by decide +kernel) ⟨Nat.le_of_ble_eq_true rfl, Nat.le_of_ble_eq_true rfl⟩ hMo.c0 rfl rfl rfl (Nat.le_of_ble_eq_true rfl) dX8_make_69 ⟨Nat.le_of_ble_eq_true rfl, Nat.le_of_ble_eq_true rfl⟩ (g_kxv0 (fun τ_6 H locs z1 hz hp hP hL hS => ?_))
                    obtain ⟨hz1, hm_6, ha_6⟩ := hp
                    have hz := hz.trans hz1
                    have hMo := hm_6
                    have hag := hag.tr ha_6 (fun q h => h)
                    refine lv_iinc (v := (nI (i + 1))) (lv' := [(2, .int (nI (i + 1))), (0, .ref mo), (1, .int (nI n))]) hx hb dX8_make_72 hl (k := 2) rfl (g_inc i 1) (by decide) rfl (fun ls hl => ?_)
                    refine lv_goto (tgt := 58) hx hb dX8_make_75 (by decide) ?_
                    exact ih_lq (i + 1) (by omega) (by omega) τ_6 ⟨_, hMo, hR, (fun j h1 h2 => (sRow_n (by omega)).trans ((sRow_n (by omega)).trans (hAr j h1 h2))), pl_la hpl (by omega), pl_in hpl hin (by omega)⟩ hag hL H locs ls hz hP hS (lv_sub hl [1, 2, 0] rfl)
              exact lq _ 0 (by omega) (Nat.lt_succ_self _) υ ⟨_, hMo, hR, hAr, hpl, fun j hj => absurd hj (Nat.not_lt_zero j)⟩ hag hL H locs ls hz hP hS (lv_sub hl [1, 2, 0] rfl)
            · refine lv_aload_n hx hb dX8_make_43 rfl (lv_at hl 0 rfl) ?_
              refine lv_iload_n hx hb dX8_make_44 rfl (lv_at hl 1 rfl) ?_
              refine g_runV (As := [.int (nI n)]) (rest := []) (own := RX8) (C := RX8) (T := TX8) (N := 20) 1 hx hb hml hown hts hK hz hP hL hS hlo hl.1 (c_X8_soloAt l mo A3 (plA S np n) n υ sz hMo hR (by omega)) gX8_make_X8_soloAt rfl rfl rfl (by decide +kernel) ⟨Nat.le_of_ble_eq_true rfl, Nat.le_of_ble_eq_true rfl⟩ hMo.c0 rfl rfl rfl (Nat.le_of_ble_eq_true rfl) dX8_make_45 ⟨Nat.le_of_ble_eq_true rfl, Nat.le_of_ble_eq_true rfl⟩ (g_ki0 (fun H locs hz hP hL hS => ?_))
              rcases hso : soloF (plA S np n) n with _ | so
              · refine g_top (y := (-5)) rfl ?_
                refine lv_if_ge (tgt := 56) hx hb dX8_make_48 (by decide) (fun c48 => absurd c48 (by decide)) (fun c48 => ?_)
                have hgz : plA S np n 2 n = 0 := by show sRow S 2 (plF S np n).1 2 n = 0; rw [sRow_s]; exact plF_z n n (Nat.le_refl n)
                refine lv_aload_n hx hb dX8_make_51 rfl (lv_at hl 0 rfl) ?_
                refine lv_iload_n hx hb dX8_make_52 rfl (lv_at hl 1 rfl) ?_
                refine g_runV (As := [.int (nI n)]) (rest := []) (own := RX8) (C := RX8) (T := TX8) (N := 20) 1 hx hb hml hown hts hK hz hP hL hS hlo hl.1 (c_X8_giveMarks l mo A3 (plA S np n) n np υ sz hMo hR hok (by omega) hnp hnp2 hgz) gX8_make_X8_giveMarks rfl rfl rfl (by decide +kernel) ⟨Nat.le_of_ble_eq_true rfl, Nat.le_of_ble_eq_true rfl⟩ hMo.c0 rfl rfl rfl (Nat.le_of_ble_eq_true rfl) dX8_make_53 ⟨Nat.le_of_ble_eq_true rfl, Nat.le_of_ble_eq_true rfl⟩ (g_kxv0 (fun τ_7 H locs z1 hz hp hP hL hS => ?_))
                obtain ⟨hz1, ⟨G, hm_7, hRg, hGr⟩, ha_7⟩ := hp
                have hz := hz.trans hz1
                have hMo := hm_7
                have hag := hag.tr ha_7 (fun q h => h)
                have hR : Rr (plA S np (n + 1)) (G 1) := by rw [plA, plM_3 (S := S) c40 hso, ← choF_c (S := plA S np n) (lf := fun i => laI (plA S np n) A3 i n) (fun i hi => hpl i hi), ← sRow_2 S 2 (plF S np n).1]; exact hRg
                have hAr := fun (j : Nat) (h1 : j ≠ 1) (h2 : j < 10 ∨ 12 < j) => (hGr j h1 (by omega)).trans (hAr j h1 h2)
                have hpl : plL0 S G np n := fun i hi => by rw [← hpl i hi, laI, laI, hGr 11 (by decide) (by decide)]
                have hB9 : sB (plA S np (n + 1)) = sB S := rfl
                have hN9 : sN (plA S np (n + 1)) = sN S := rfl
                have hR9 : sR (plA S np (n + 1)) = sR S := rfl
                have hK9 : sK (plA S np (n + 1)) = sK S := rfl
                refine lv_iconst (v := (nI 0)) hx hb dX8_make_56 (by decide) ?_
                refine lv_istore_n (lv' := [(2, .int (nI 0)), (0, .ref mo), (1, .int (nI n))]) hx hb dX8_make_57 rfl hl (by decide) rfl (fun ls hl => ?_)
                have lq : ∀ (fu_lq : Nat) (i : Nat), (i ≤ sN S) → (sN S - i < fu_lq) → ∀ (υ : gS), (∃ A2 : sS, MoAt υ mo A2 ∧ Rr (plA S np (n + 1)) (A2 1) ∧ (∀ j : Nat, j ≠ 1 → (j < 10 ∨ 12 < j) → A2 j = A_1 j) ∧ plL0 S A2 np n ∧ (∀ j : Nat, j < i → A2 11 (96 * j + n) = (plF S np (n + 1)).2 j)) → (gAs (gZo mo 16) σ υ) → gL lo υ → ∀ (H : Heap) (locs : List Loc) (ls : Array Slot), H.size = sz → gH D ka υ H → va_S (gA lo) s.heap H locs → lv_has ls 3 [(0, .ref mo), (1, .int (nI n)), (2, .int (nI i))] → W p l e ({ frames := 4, cells := 0, slots := 0, locals := 93 } : Room) s m ([.ref mo] : List Value).toArray below meth c H locs (0) (0) (MQ below (gQ D ka lo (gxi (fun r τ n => mP mo σ S tf tn P C kp sz (o_make S np) r τ n))) ([.ref mo] : List Value).toArray s 0 0 (gA lo)) (F0 m 58 ls []) := by
                  intro fu_lq
                  induction fu_lq with
                  | zero => intro i hi hm_lq; exact absurd hm_lq (Nat.not_lt_zero _)
                  | succ fu_lq ih_lq =>
                    intro i hi hm_lq υ hEx hag hL H locs ls hz hP hS hl
                    obtain ⟨A8, hMo, hR, hAr, hpl, hin⟩ := hEx
                    have hB9 : sB (plA S np (n + 1)) = sB S := rfl
                    have hN9 : sN (plA S np (n + 1)) = sN S := rfl
                    have hR9 : sR (plA S np (n + 1)) = sR S := rfl
                    have hK9 : sK (plA S np (n + 1)) = sK S := rfl
                    refine lv_iload_n hx hb dX8_make_58 rfl (lv_at hl 2 rfl) ?_
                    refine lv_aload_n hx hb dX8_make_59 rfl (lv_at hl 0 rfl) ?_
                    refine g_runV (As := []) (rest := [.int (nI i)]) (own := RX8) (C := RX8) (T := TX8) (N := 20) 0 hx hb hml hown hts hK hz hP hL hS hlo hl.1 (c_X8_singers l mo A8 (plA S np (n + 1))  υ sz hMo hR) gX8_make_X8_singers rfl rfl rfl (by decide +kernel) ⟨Nat.le_of_ble_eq_true rfl, Nat.le_of_ble_eq_true rfl⟩ hMo.c0 rfl rfl rfl (Nat.le_of_ble_eq_true rfl) dX8_make_60 ⟨Nat.le_of_ble_eq_true rfl, Nat.le_of_ble_eq_true rfl⟩ (g_ki0 (fun H locs hz hP hL hS => ?_))
                    refine g_icmp_ge (tgt := 78) (a := i) (b := sN (plA S np (n + 1))) hx hb (by omega) (by omega) dX8_make_63 (by decide) (fun c63 => ?_) (fun c63 => ?_)
                    · refine lv_iinc (v := (nI (n + 1))) (lv' := [(1, .int (nI (n + 1))), (0, .ref mo), (2, .int (nI i))]) hx hb dX8_make_78 hl (k := 1) rfl (g_inc n 1) (by decide) rfl (fun ls hl => ?_)
                      refine lv_goto (tgt := 27) hx hb dX8_make_81 (by decide) ?_
                      exact ih_lp (n + 1) (by omega) (by omega) υ ⟨_, hMo, hR, hAr, fun j hj => by rw [laI, if_neg (by omega)]; exact hin j (by omega)⟩ hag hL H locs ls hz hP hS (lv_sub hl [1, 0] rfl)
                    · refine lv_aload_n hx hb dX8_make_66 rfl (lv_at hl 0 rfl) ?_
                      refine lv_iload_n hx hb dX8_make_67 rfl (lv_at hl 2 rfl) ?_
                      refine lv_iload_n hx hb dX8_make_68 rfl (lv_at hl 1 rfl) ?_
                      refine g_runV (As := [.int (nI i), .int (nI n)]) (rest := []) (own := RX8) (C := RX8) (T := TX8) (N := 20) 2 hx hb hml hown hts hK hz hP hL hS hlo hl.1 (c_X8_live l mo A8 (plA S np (n + 1)) i n υ sz hMo hR (by omega) (by omega) (by omega) (by omega) (by omega)) gX8_make_X8_live rfl rfl rfl (by decide +kernel) ⟨Nat.le_of_ble_eq_true rfl, Nat.le_of_ble_eq_true rfl⟩ hMo.c0 rfl rfl rfl (Nat.le_of_ble_eq_true rfl) dX8_make_69 ⟨Nat.le_of_ble_eq_true rfl, Nat.le_of_ble_eq_true rfl⟩ (g_kxv0 (fun τ_9 H locs z1 hz hp hP hL hS => ?_))
                      obtain ⟨hz1, hm_9, ha_9⟩ := hp
                      have hz := hz.trans hz1
                      have hMo := hm_9
                      have hag := hag.tr ha_9 (fun q h => h)
                      refine lv_iinc (v := (nI (i + 1))) (lv' := [(2, .int (nI (i + 1))), (0, .ref mo), (1, .int (nI n))]) hx hb dX8_make_72 hl (k := 2) rfl (g_inc i 1) (by decide) rfl (fun ls hl => ?_)
                      refine lv_goto (tgt := 58) hx hb dX8_make_75 (by decide) ?_
                      exact ih_lq (i + 1) (by omega) (by omega) τ_9 ⟨_, hMo, hR, (fun j h1 h2 => (sRow_n (by omega)).trans ((sRow_n (by omega)).trans (hAr j h1 h2))), pl_la hpl (by omega), pl_in hpl hin (by omega)⟩ hag hL H locs ls hz hP hS (lv_sub hl [1, 2, 0] rfl)
                exact lq _ 0 (by omega) (Nat.lt_succ_self _) τ_7 ⟨_, hMo, hR, hAr, hpl, fun j hj => absurd hj (Nat.not_lt_zero j)⟩ hag hL H locs ls hz hP hS (lv_sub hl [1, 2, 0] rfl)
              · refine g_top (y := (nI so)) rfl ?_
                have hso2 : so < sK S := soloF_lt hso
                refine g_if_ge hx hb (by omega) dX8_make_48 (tgt := 56) (by decide) ?_
                have hR : Rr (plA S np (n + 1)) (A3 1) := by rw [plA, plM_2 (S := S) hso]; exact hR
                have hB9 : sB (plA S np (n + 1)) = sB S := rfl
                have hN9 : sN (plA S np (n + 1)) = sN S := rfl
                have hR9 : sR (plA S np (n + 1)) = sR S := rfl
                have hK9 : sK (plA S np (n + 1)) = sK S := rfl
                refine lv_iconst (v := (nI 0)) hx hb dX8_make_56 (by decide) ?_
                refine lv_istore_n (lv' := [(2, .int (nI 0)), (0, .ref mo), (1, .int (nI n))]) hx hb dX8_make_57 rfl hl (by decide) rfl (fun ls hl => ?_)
                have lq : ∀ (fu_lq : Nat) (i : Nat), (i ≤ sN S) → (sN S - i < fu_lq) → ∀ (υ : gS), (∃ A2 : sS, MoAt υ mo A2 ∧ Rr (plA S np (n + 1)) (A2 1) ∧ (∀ j : Nat, j ≠ 1 → (j < 10 ∨ 12 < j) → A2 j = A_1 j) ∧ plL0 S A2 np n ∧ (∀ j : Nat, j < i → A2 11 (96 * j + n) = (plF S np (n + 1)).2 j)) → (gAs (gZo mo 16) σ υ) → gL lo υ → ∀ (H : Heap) (locs : List Loc) (ls : Array Slot), H.size = sz → gH D ka υ H → va_S (gA lo) s.heap H locs → lv_has ls 3 [(0, .ref mo), (1, .int (nI n)), (2, .int (nI i))] → W p l e ({ frames := 4, cells := 0, slots := 0, locals := 93 } : Room) s m ([.ref mo] : List Value).toArray below meth c H locs (0) (0) (MQ below (gQ D ka lo (gxi (fun r τ n => mP mo σ S tf tn P C kp sz (o_make S np) r τ n))) ([.ref mo] : List Value).toArray s 0 0 (gA lo)) (F0 m 58 ls []) := by
                  intro fu_lq
                  induction fu_lq with
                  | zero => intro i hi hm_lq; exact absurd hm_lq (Nat.not_lt_zero _)
                  | succ fu_lq ih_lq =>
                    intro i hi hm_lq υ hEx hag hL H locs ls hz hP hS hl
                    obtain ⟨A10, hMo, hR, hAr, hpl, hin⟩ := hEx
                    have hB9 : sB (plA S np (n + 1)) = sB S := rfl
                    have hN9 : sN (plA S np (n + 1)) = sN S := rfl
                    have hR9 : sR (plA S np (n + 1)) = sR S := rfl
                    have hK9 : sK (plA S np (n + 1)) = sK S := rfl
                    refine lv_iload_n hx hb dX8_make_58 rfl (lv_at hl 2 rfl) ?_
                    refine lv_aload_n hx hb dX8_make_59 rfl (lv_at hl 0 rfl) ?_
                    refine g_runV (As := []) (rest := [.int (nI i)]) (own := RX8) (C := RX8) (T := TX8) (N := 20) 0 hx hb hml hown hts hK hz hP hL hS hlo hl.1 (c_X8_singers l mo A10 (plA S np (n + 1))  υ sz hMo hR) gX8_make_X8_singers rfl rfl rfl (by decide +kernel) ⟨Nat.le_of_ble_eq_true rfl, Nat.le_of_ble_eq_true rfl⟩ hMo.c0 rfl rfl rfl (Nat.le_of_ble_eq_true rfl) dX8_make_60 ⟨Nat.le_of_ble_eq_true rfl, Nat.le_of_ble_eq_true rfl⟩ (g_ki0 (fun H locs hz hP hL hS => ?_))
                    refine g_icmp_ge (tgt := 78) (a := i) (b := sN (plA S np (n + 1))) hx hb (by omega) (by omega) dX8_make_63 (by decide) (fun c63 => ?_) (fun c63 => ?_)
                    · refine lv_iinc (v := (nI (n + 1))) (lv' := [(1, .int (nI (n + 1))), (0, .ref mo), (2, .int (nI i))]) hx hb dX8_make_78 hl (k := 1) rfl (g_inc n 1) (by decide) rfl (fun ls hl => ?_)
                      refine lv_goto (tgt := 27) hx hb dX8_make_81 (by decide) ?_
                      exact ih_lp (n + 1) (by omega) (by omega) υ ⟨_, hMo, hR, hAr, fun j hj => by rw [laI, if_neg (by omega)]; exact hin j (by omega)⟩ hag hL H locs ls hz hP hS (lv_sub hl [1, 0] rfl)
                    · refine lv_aload_n hx hb dX8_make_66 rfl (lv_at hl 0 rfl) ?_
                      refine lv_iload_n hx hb dX8_make_67 rfl (lv_at hl 2 rfl) ?_
                      refine lv_iload_n hx hb dX8_make_68 rfl (lv_at hl 1 rfl) ?_
                      refine g_runV (As := [.int (nI i), .int (nI n)]) (rest := []) (own := RX8) (C := RX8) (T := TX8) (N := 20) 2 hx hb hml hown hts hK hz hP hL hS hlo hl.1 (c_X8_live l mo A10 (plA S np (n + 1)) i n υ sz hMo hR (by omega) (by omega) (by omega) (by omega) (by omega)) gX8_make_X8_live rfl rfl rfl (by decide +kernel) ⟨Nat.le_of_ble_eq_true rfl, Nat.le_of_ble_eq_true rfl⟩ hMo.c0 rfl rfl rfl (Nat.le_of_ble_eq_true rfl) dX8_make_69 ⟨Nat.le_of_ble_eq_true rfl, Nat.le_of_ble_eq_true rfl⟩ (g_kxv0 (fun τ_11 H locs z1 hz hp hP hL hS => ?_))
                      obtain ⟨hz1, hm_11, ha_11⟩ := hp
                      have hz := hz.trans hz1
                      have hMo := hm_11
                      have hag := hag.tr ha_11 (fun q h => h)
                      refine lv_iinc (v := (nI (i + 1))) (lv' := [(2, .int (nI (i + 1))), (0, .ref mo), (1, .int (nI n))]) hx hb dX8_make_72 hl (k := 2) rfl (g_inc i 1) (by decide) rfl (fun ls hl => ?_)
                      refine lv_goto (tgt := 58) hx hb dX8_make_75 (by decide) ?_
                      exact ih_lq (i + 1) (by omega) (by omega) τ_11 ⟨_, hMo, hR, (fun j h1 h2 => (sRow_n (by omega)).trans ((sRow_n (by omega)).trans (hAr j h1 h2))), pl_la hpl (by omega), pl_in hpl hin (by omega)⟩ hag hL H locs ls hz hP hS (lv_sub hl [1, 2, 0] rfl)
                exact lq _ 0 (by omega) (Nat.lt_succ_self _) υ ⟨_, hMo, hR, hAr, hpl, fun j hj => absurd hj (Nat.not_lt_zero j)⟩ hag hL H locs ls hz hP hS (lv_sub hl [1, 2, 0] rfl)
      exact lp _ 0 (by omega) (Nat.lt_succ_self _) τ_2 ⟨_, hMo, hR, fun j h1 h2 => hA0r j h1, fun i hi => rfl⟩ hag hL H locs ls hz hP hS (lv_sub hl [1, 0] rfl)
    · refine lv_bipush (v := (-4)) hx hb dX8_make_14 (by decide) ?_
      exact g_iret (z := sz) hx hb hr hlk hz hP hL hS dX8_make_16 (gxi_i (mP_n (by rw [o_make, if_neg (fun q => by have := (pr0 hpb).mp q; omega), if_pos (by omega)]) ⟨_, hMo, hA⟩ rfl hag))
