/-! the reference: solos in and out -/
theorem ovl_2r {S : sS} {fr to k : Nat} (h : S 7 k < nI fr) : ovl S fr to k = false := by rw [ovl, decide_eq_false (Int32.not_le.mpr h), Bool.and_false]
/-- the solos' cells moved up by one place from place u on -/
def mvU (f : Nat → Int32) (u n : Nat) : Nat → Int32 := fun x => if 268 + 3 * u ≤ x ∧ x < 268 + 3 * n then f (x - 3) else f x
theorem mvU_0 (A : sS) (n : Nat) : sRow A 1 (mvU (A 1) (n + 1) (n + 1)) = A := by
  have e : mvU (A 1) (n + 1) (n + 1) = A 1 := by funext x; simp only [mvU]; rw [if_neg (by omega)]
  rw [e, sRow_id]
/-- and some cells of the place below -/
def mvV (f : Nat → Int32) (u n j : Nat) : Nat → Int32 := fun x => if 268 + 3 * u ≤ x ∧ x < 268 + 3 * u + j then f (x - 3) else mvU f (u + 1) n x
theorem mvV_0 (f : Nat → Int32) (u n : Nat) : mvV f u n 0 = mvU f (u + 1) n := by funext x; simp only [mvV]; rw [if_neg (by omega)]
theorem mvV_3 {f : Nat → Int32} {u n : Nat} (h : u < n) : mvV f u n 3 = mvU f u n := by
  funext x
  simp only [mvV, mvU]
  by_cases c : 268 + 3 * u ≤ x ∧ x < 268 + 3 * u + 3
  · rw [if_pos c, if_pos (by omega)]
  · rw [if_neg c]
    by_cases c2 : 268 + 3 * (u + 1) ≤ x ∧ x < 268 + 3 * n
    · rw [if_pos c2, if_pos (by omega)]
    · rw [if_neg c2, if_neg (by omega)]
theorem mvV_s {A : sS} {u n j : Nat} (h0 : 0 < u) (hj : j < 3) : sRow (sRow A 1 (mvV (A 1) u n j)) 1 (upd ((sRow A 1 (mvV (A 1) u n j)) 1) (268 + 3 * u + j) ((sRow A 1 (mvV (A 1) u n j)) 1 (268 + 3 * (u - 1) + j))) = sRow A 1 (mvV (A 1) u n (j + 1)) := by
  rw [sRow_2, sRow_s]
  congr 1
  funext x
  simp only [upd, mvV, mvU]
  by_cases c : x = 268 + 3 * u + j
  · rw [if_pos c, if_neg (by omega), if_neg (by omega), if_pos (by omega), show x - 3 = 268 + 3 * (u - 1) + j by omega]
  · rw [if_neg c]
    by_cases c2 : 268 + 3 * u ≤ x ∧ x < 268 + 3 * u + j
    · rw [if_pos c2, if_pos (by omega)]
    · rw [if_neg c2, if_neg (c := 268 + 3 * u ≤ x ∧ x < 268 + 3 * u + (j + 1)) (by omega)]
/-- moved down by one place -/
def mvD (f : Nat → Int32) (a u : Nat) : Nat → Int32 := fun x => if a ≤ x ∧ x < a + u then f (x + 3) else f x
theorem mvD_0 (A : sS) (a : Nat) : sRow A 1 (mvD (A 1) a 0) = A := by
  have e : mvD (A 1) a 0 = A 1 := by funext x; simp only [mvD]; rw [if_neg (by omega)]
  rw [e, sRow_id]
theorem mvD_s {A : sS} {a u : Nat} : sRow (sRow A 1 (mvD (A 1) a u)) 1 (upd ((sRow A 1 (mvD (A 1) a u)) 1) (a + u) ((sRow A 1 (mvD (A 1) a u)) 1 (a + u + 3))) = sRow A 1 (mvD (A 1) a (u + 1)) := by
  rw [sRow_2, sRow_s]
  congr 1
  funext x
  simp only [upd, mvD]
  by_cases c : x = a + u
  · subst c; rw [if_pos rfl, if_neg (by omega), if_pos (by omega)]
  · rw [if_neg c]
    by_cases c2 : a ≤ x ∧ x < a + u
    · rw [if_pos c2, if_pos (by omega)]
    · rw [if_neg c2, if_neg (by omega)]
theorem drpS_K {S : sS} {k0 : Nat} (h : sK S ≤ 8) : sK (drpS S k0) = sK S - 1 := by
  show (sPut _ 8 3 (nI (sK S - 1)) 8 3).toNatClampNeg = _
  rw [sPut_s]; exact nI_clamp (by omega)
set_option maxHeartbeats 4000000 in
set_option maxRecDepth 100000 in
theorem c_X8_soloOf_r (l : Launch) (mo : Nat) (A : sS) (k j : Nat) (σ : gS) (sz : Nat) (hMo : MoAt σ mo A) (hk : k < 8) (hj : j < 3) : gM l yX8_soloOf wsX8_soloOf ({ frames := 0, cells := 0, slots := 0, locals := 0 } : Room) 0 0 [.ref mo, .int (nI k), .int (nI j)] σ sz (gi (A 1 (268 + 3 * k + j)) σ sz) := by
  refine gM_of (cc := cX8_soloOf) (maxL := 3) (ret := (some .int)) (by decide) rfl (Nat.le_of_ble_eq_true rfl) ?_
  intro D ka lo hL hlo p e s m below meth c hx hb hr hts hown hml hlk hnm hK H locs ls hz hP hS hl
  have hl : lv_has ls 3 [(0, .ref mo), (1, .int (nI k)), (2, .int (nI j))] := hl
  have hown : s.vm.findClass RX8 = some m.cls := hown
  refine lv_aload_n hx hb dX8_soloOf_0 rfl (lv_at hl 0 rfl) ?_
  refine g_get (C := RX8) (T := TX8) (N := 20) hx hb hts hown hK hP hMo.c0 nX8_soloOf_X8 rfl 0 (by decide) (by decide +kernel) rfl (v := .ref (mo + 1)) rfl dX8_soloOf_1 ?_
  refine lv_sipush (v := (nI 268)) hx hb dX8_soloOf_4 (by decide) ?_
  refine lv_iconst (v := (nI 3)) hx hb dX8_soloOf_7 (by decide) ?_
  refine lv_iload_n hx hb dX8_soloOf_8 rfl (lv_at hl 1 rfl) ?_
  refine lv_imul hx hb dX8_soloOf_9 ?_
  refine g_top (pk_mul 3 k) ?_
  refine lv_iadd hx hb dX8_soloOf_10 ?_
  refine g_top (nI_add 268 (3 * k)) ?_
  refine lv_iload_n hx hb dX8_soloOf_11 rfl (lv_at hl 2 rfl) ?_
  refine lv_iadd hx hb dX8_soloOf_12 ?_
  refine g_top (nI_add (268 + (3 * k)) j) ?_
  refine g_iald hx hb hK hP hMo.c1 (i := nI ((268 + (3 * k)) + j)) (vp_in_nI (by omega) (by omega)) dX8_soloOf_13 ?_
  rw [nI_clamp (n := (268 + (3 * k)) + j) (by omega)]
  exact g_iret (z := sz) hx hb hr hlk hz hP hL hS dX8_soloOf_14 (gi_i rfl rfl)

set_option maxHeartbeats 4000000 in
set_option maxRecDepth 100000 in
theorem c_X8_solos_r (l : Launch) (mo : Nat) (A : sS) (σ : gS) (sz : Nat) (hMo : MoAt σ mo A) : gM l yX8_solos wsX8_solos ({ frames := 0, cells := 0, slots := 0, locals := 0 } : Room) 0 0 [.ref mo] σ sz (gi (A 1 2) σ sz) := by
  refine gM_of (cc := cX8_solos) (maxL := 1) (ret := (some .int)) (by decide) rfl (Nat.le_of_ble_eq_true rfl) ?_
  intro D ka lo hL hlo p e s m below meth c hx hb hr hts hown hml hlk hnm hK H locs ls hz hP hS hl
  have hl : lv_has ls 1 [(0, .ref mo)] := hl
  have hown : s.vm.findClass RX8 = some m.cls := hown
  refine lv_aload_n hx hb dX8_solos_0 rfl (lv_at hl 0 rfl) ?_
  refine g_get (C := RX8) (T := TX8) (N := 20) hx hb hts hown hK hP hMo.c0 nX8_solos_X8 rfl 0 (by decide) (by decide +kernel) rfl (v := .ref (mo + 1)) rfl dX8_solos_1 ?_
  refine lv_iconst (v := (nI 2)) hx hb dX8_solos_4 (by decide) ?_
  refine g_iald hx hb hK hP hMo.c1 (i := nI 2) (vp_in_nI (by omega) (by omega)) dX8_solos_5 ?_
  rw [nI_clamp (n := 2) (by omega)]
  exact g_iret (z := sz) hx hb hr hlk hz hP hL hS dX8_solos_6 (gi_i rfl rfl)

theorem nX8_addSolo_X8 : ∀ w ∈ wsX80, w ∈ wsX8_addSolo := by decide +kernel
set_option maxHeartbeats 4000000 in
set_option maxRecDepth 100000 in
theorem c_X8_addSolo (l : Launch) (mo : Nat) (S : sS) (tf : Nat → Int32) (tn P : Nat) (C : Nat → sS) (kp : Nat → Bool) (a1 a2 a3 : Int32) (σ : gS) (sz : Nat) (hW : Me σ mo S tf tn P C kp) (hok : okS S) (hokC : ∀ k : Nat, k < P → okS (C k)) : gM l yX8_addSolo wsX8_addSolo ({ frames := 2, cells := 0, slots := 0, locals := 43 } : Room) 0 0 [.ref mo, .int a1, .int a2, .int a3] σ sz (gxi (fun r τ n => mP mo σ S tf tn P C kp sz (o_addSolo S a1 a2 a3) r τ n)) := by
  refine gM_of (cc := cX8_addSolo) (maxL := 6) (ret := (some .int)) (by decide) rfl (Nat.le_of_ble_eq_true rfl) ?_
  intro D ka lo hL hlo p e s m below meth c hx hb hr hts hown hml hlk hnm hK H locs ls hz hP hS hl
  have hl : lv_has ls 6 [(0, .ref mo), (1, .int a1), (2, .int a2), (3, .int a3)] := hl
  have hown : s.vm.findClass RX8 = some m.cls := hown
  obtain ⟨A, hMo, hA⟩ := hW
  have hR := hA.2.2.1
  have hR0 := hR
  have hP0 := hA.1
  have htn0 := hA.2.1
  have hP5 : P ≤ 5 := hA.2.2.2.2.2.2.2.2
  have htn : tn ≤ 60 := hA.2.2.2.2.2.2.2.1
  obtain ⟨hB, hN, hKs, hRs⟩ := id hok
  have hag : gAs (gZo mo 16) σ σ := gAs.rf
  refine lv_aload_n hx hb dX8_addSolo_0 rfl (lv_at hl 0 rfl) ?_
  refine lv_iload_n hx hb dX8_addSolo_1 rfl (lv_at hl 1 rfl) ?_
  refine g_runV (As := [.int a1]) (rest := []) (own := RX8) (C := RX8) (T := TX8) (N := 20) 1 hx hb hml hown hts hK hz hP hL hS hlo hl.1 (c_X8_noSinger l mo A S a1 σ sz hMo hR (by omega)) gX8_addSolo_X8_noSinger rfl rfl rfl (by decide +kernel) ⟨Nat.le_of_ble_eq_true rfl, Nat.le_of_ble_eq_true rfl⟩ hMo.c0 rfl rfl rfl (Nat.le_of_ble_eq_true rfl) dX8_addSolo_2 ⟨Nat.le_of_ble_eq_true rfl, Nat.le_of_ble_eq_true rfl⟩ (g_ki0 (fun H locs hz hP hL hS => ?_))
  refine g_ifb_ne (tgt := 24) hx hb dX8_addSolo_5 (by decide) (fun c5 => ?_) (fun c5 => ?_)
  · have c5 : inN a1 (sN S) = false := by simpa using c5
    refine lv_iconst (v := (-1)) hx hb dX8_addSolo_24 (by decide) ?_
    exact g_iret (z := sz) hx hb hr hlk hz hP hL hS dX8_addSolo_25 (gxi_i (mP_n (by unfold o_addSolo; rw [if_neg (by first | exact c5 | exact nb c5 | exact Ne.symm c5 | exact fun q => q c5 | exact fun q => q c5.symm | omega)]) ⟨_, hMo, hA⟩ rfl hag))
  · have c5 : inN a1 (sN S) = true := by simpa using c5
    obtain ⟨ha1e, ha1l⟩ := tk_in c5 (by omega)
    refine lv_aload_n hx hb dX8_addSolo_8 rfl (lv_at hl 0 rfl) ?_
    refine lv_iload_n hx hb dX8_addSolo_9 rfl (lv_at hl 2 rfl) ?_
    refine g_runV (As := [.int a2]) (rest := []) (own := RX8) (C := RX8) (T := TX8) (N := 20) 1 hx hb hml hown hts hK hz hP hL hS hlo hl.1 (c_X8_noBeat l mo A S a2 σ sz hMo hR (by omega)) gX8_addSolo_X8_noBeat rfl rfl rfl (by decide +kernel) ⟨Nat.le_of_ble_eq_true rfl, Nat.le_of_ble_eq_true rfl⟩ hMo.c0 rfl rfl rfl (Nat.le_of_ble_eq_true rfl) dX8_addSolo_10 ⟨Nat.le_of_ble_eq_true rfl, Nat.le_of_ble_eq_true rfl⟩ (g_ki0 (fun H locs hz hP hL hS => ?_))
    refine g_ifb_ne (tgt := 24) hx hb dX8_addSolo_13 (by decide) (fun c13 => ?_) (fun c13 => ?_)
    · have c13 : inN a2 (sB S) = false := by simpa using c13
      refine lv_iconst (v := (-1)) hx hb dX8_addSolo_24 (by decide) ?_
      exact g_iret (z := sz) hx hb hr hlk hz hP hL hS dX8_addSolo_25 (gxi_i (mP_n (by unfold o_addSolo; rw [if_pos (by first | exact c5 | exact nb c5 | exact Ne.symm c5 | exact fun q => q c5 | exact fun q => q c5.symm | omega), if_neg (by first | exact c13 | exact nb c13 | exact Ne.symm c13 | exact fun q => q c13 | exact fun q => q c13.symm | omega)]) ⟨_, hMo, hA⟩ rfl hag))
    · have c13 : inN a2 (sB S) = true := by simpa using c13
      obtain ⟨ha2e, ha2l⟩ := tk_in c13 (by omega)
      refine lv_aload_n hx hb dX8_addSolo_16 rfl (lv_at hl 0 rfl) ?_
      refine lv_iload_n hx hb dX8_addSolo_17 rfl (lv_at hl 3 rfl) ?_
      refine g_runV (As := [.int a3]) (rest := []) (own := RX8) (C := RX8) (T := TX8) (N := 20) 1 hx hb hml hown hts hK hz hP hL hS hlo hl.1 (c_X8_noBeat l mo A S a3 σ sz hMo hR (by omega)) gX8_addSolo_X8_noBeat rfl rfl rfl (by decide +kernel) ⟨Nat.le_of_ble_eq_true rfl, Nat.le_of_ble_eq_true rfl⟩ hMo.c0 rfl rfl rfl (Nat.le_of_ble_eq_true rfl) dX8_addSolo_18 ⟨Nat.le_of_ble_eq_true rfl, Nat.le_of_ble_eq_true rfl⟩ (g_ki0 (fun H locs hz hP hL hS => ?_))
      refine g_ifb_eq (tgt := 26) hx hb dX8_addSolo_21 (by decide) (fun c21 => ?_) (fun c21 => ?_)
      · have c21 : inN a3 (sB S) = true := by simpa using c21
        obtain ⟨ha3e, ha3l⟩ := tk_in c21 (by omega)
        refine lv_iload_n hx hb dX8_addSolo_26 rfl (lv_at hl 3 rfl) ?_
        refine g_top (y := (nI (tk a3))) ha3e ?_
        refine lv_iload_n hx hb dX8_addSolo_27 rfl (lv_at hl 2 rfl) ?_
        refine g_top (y := (nI (tk a2))) ha2e ?_
        refine g_icmp_ge (tgt := 34) (a := tk a3) (b := tk a2) hx hb (by omega) (by omega) dX8_addSolo_28 (by decide) (fun c28 => ?_) (fun c28 => ?_)
        · refine lv_iconst (v := (nI 0)) hx hb dX8_addSolo_34 (by decide) ?_
          refine lv_istore (lv' := [(4, .int (nI 0)), (0, .ref mo), (1, .int a1), (2, .int a2), (3, .int a3)]) hx hb dX8_addSolo_35 hl (by decide) rfl (fun ls hl => ?_)
          have lp : ∀ (fu_lp : Nat) (k : Nat), (k ≤ sK S) → (firstK (ovl S (tk a2) (tk a3)) (sK S - k) k = firstK (ovl S (tk a2) (tk a3)) (sK S) 0) → (sK S - k < fu_lp) → ∀ (H : Heap) (locs : List Loc) (ls : Array Slot), H.size = sz → gH D ka σ H → va_S (gA lo) s.heap H locs → lv_has ls 6 [(0, .ref mo), (1, .int a1), (2, .int a2), (3, .int a3), (4, .int (nI k))] → W p l e ({ frames := 2, cells := 0, slots := 0, locals := 43 } : Room) s m ([.ref mo, .int a1, .int a2, .int a3] : List Value).toArray below meth c H locs (0) (0) (MQ below (gQ D ka lo (gxi (fun r τ n => mP mo σ S tf tn P C kp sz (o_addSolo S a1 a2 a3) r τ n))) ([.ref mo, .int a1, .int a2, .int a3] : List Value).toArray s 0 0 (gA lo)) (F0 m 37 ls []) := by
            intro fu_lp
            induction fu_lp with
            | zero => intro k hk hs hm_lp; exact absurd hm_lp (Nat.not_lt_zero _)
            | succ fu_lp ih_lp =>
              intro k hk hs hm_lp H locs ls hz hP hS hl
              refine lv_iload hx hb dX8_addSolo_37 (lv_at hl 4 rfl) ?_
              refine lv_aload_n hx hb dX8_addSolo_39 rfl (lv_at hl 0 rfl) ?_
              refine g_runV (As := []) (rest := [.int (nI k)]) (own := RX8) (C := RX8) (T := TX8) (N := 20) 0 hx hb hml hown hts hK hz hP hL hS hlo hl.1 (c_X8_solos l mo A S  σ sz hMo hR) gX8_addSolo_X8_solos rfl rfl rfl (by decide +kernel) ⟨Nat.le_of_ble_eq_true rfl, Nat.le_of_ble_eq_true rfl⟩ hMo.c0 rfl rfl rfl (Nat.le_of_ble_eq_true rfl) dX8_addSolo_40 ⟨Nat.le_of_ble_eq_true rfl, Nat.le_of_ble_eq_true rfl⟩ (g_ki0 (fun H locs hz hP hL hS => ?_))
              refine g_icmp_ge (tgt := 77) (a := k) (b := sK S) hx hb (by omega) (by omega) dX8_addSolo_43 (by decide) (fun c43 => ?_) (fun c43 => ?_)
              · have hs0 := hs
                refine lv_aload_n hx hb dX8_addSolo_77 rfl (lv_at hl 0 rfl) ?_
                refine g_runV (As := []) (rest := []) (own := RX8) (C := RX8) (T := TX8) (N := 20) 0 hx hb hml hown hts hK hz hP hL hS hlo hl.1 (c_X8_solos l mo A S  σ sz hMo hR) gX8_addSolo_X8_solos rfl rfl rfl (by decide +kernel) ⟨Nat.le_of_ble_eq_true rfl, Nat.le_of_ble_eq_true rfl⟩ hMo.c0 rfl rfl rfl (Nat.le_of_ble_eq_true rfl) dX8_addSolo_78 ⟨Nat.le_of_ble_eq_true rfl, Nat.le_of_ble_eq_true rfl⟩ (g_ki0 (fun H locs hz hP hL hS => ?_))
                refine lv_bipush (v := (nI 8)) hx hb dX8_addSolo_81 (by decide) ?_
                refine g_icmp_ne (tgt := 89) (a := sK S) (b := 8) hx hb (by omega) (by omega) dX8_addSolo_83 (by decide) (fun c83 => ?_) (fun c83 => ?_)
                · refine lv_aload_n hx hb dX8_addSolo_89 rfl (lv_at hl 0 rfl) ?_
                  refine g_runV (As := []) (rest := []) (own := RX8) (C := RX8) (T := TX8) (N := 20) 0 hx hb hml hown hts hK hz hP hL hS hlo hl.1 (c_X8_begin l mo A σ sz hMo) gX8_addSolo_X8_begin rfl rfl rfl (by decide +kernel) ⟨Nat.le_of_ble_eq_true rfl, Nat.le_of_ble_eq_true rfl⟩ hMo.c0 rfl rfl rfl (Nat.le_of_ble_eq_true rfl) dX8_addSolo_90 ⟨Nat.le_of_ble_eq_true rfl, Nat.le_of_ble_eq_true rfl⟩ (g_kxv0 (fun τ_1 H locs z1 hz hp hP hL hS => ?_))
                  obtain ⟨hz1, ⟨A_1, hm_1, hb_1, hr_1⟩, ha_1⟩ := hp
                  have hz := hz.trans hz1
                  have hMo := hm_1
                  have hag := hag.tr ha_1 (fun q h => h)
                  have hR : Rr S (A_1 1) := by rw [hr_1 1 (by decide)]; exact hR
                  refine lv_aload_n hx hb dX8_addSolo_93 rfl (lv_at hl 0 rfl) ?_
                  have hR0A := hR
                  refine g_runV (As := []) (rest := []) (own := RX8) (C := RX8) (T := TX8) (N := 20) 0 hx hb hml hown hts hK hz hP hL hS hlo hl.1 (c_X8_solos l mo A_1 S  τ_1 sz hMo hR) gX8_addSolo_X8_solos rfl rfl rfl (by decide +kernel) ⟨Nat.le_of_ble_eq_true rfl, Nat.le_of_ble_eq_true rfl⟩ hMo.c0 rfl rfl rfl (Nat.le_of_ble_eq_true rfl) dX8_addSolo_94 ⟨Nat.le_of_ble_eq_true rfl, Nat.le_of_ble_eq_true rfl⟩ (g_ki0 (fun H locs hz hP hL hS => ?_))
                  refine lv_istore (lv' := [(4, .int (nI (sK S))), (0, .ref mo), (1, .int a1), (2, .int a2), (3, .int a3)]) hx hb dX8_addSolo_97 hl (by decide) rfl (fun ls hl => ?_)
                  have lq : ∀ (fu_lq : Nat) (u : Nat), (u ≤ sK S) → (insP S (tk a2) u = insP S (tk a2) (sK S)) → (u < fu_lq) → ∀ (υ : gS), (MoAt υ mo (sRow A_1 1 (mvU (A_1 1) (u + 1) (sK S + 1)))) → (gAs (gZo mo 16) σ υ) → gL lo υ → ∀ (H : Heap) (locs : List Loc) (ls : Array Slot), H.size = sz → gH D ka υ H → va_S (gA lo) s.heap H locs → lv_has ls 6 [(0, .ref mo), (1, .int a1), (2, .int a2), (3, .int a3), (4, .int (nI u))] → W p l e ({ frames := 2, cells := 0, slots := 0, locals := 43 } : Room) s m ([.ref mo, .int a1, .int a2, .int a3] : List Value).toArray below meth c H locs (0) (0) (MQ below (gQ D ka lo (gxi (fun r τ n => mP mo σ S tf tn P C kp sz (o_addSolo S a1 a2 a3) r τ n))) ([.ref mo, .int a1, .int a2, .int a3] : List Value).toArray s 0 0 (gA lo)) (F0 m 99 ls []) := by
                    intro fu_lq
                    induction fu_lq with
                    | zero => intro u hu hs hm_lq; exact absurd hm_lq (Nat.not_lt_zero _)
                    | succ fu_lq ih_lq =>
                      intro u hu hs hm_lq υ hMo hag hL H locs ls hz hP hS hl
                      refine lv_iload hx hb dX8_addSolo_99 (lv_at hl 4 rfl) ?_
                      refine g_if_le (tgt := 164) hx hb (by omega) dX8_addSolo_101 (by decide) (fun c101 => ?_) (fun c101 => ?_)
                      · have hip : u = insP S (tk a2) (sK S) := by rw [← hs, show u = 0 by omega]; rfl
                        refine lv_aload_n hx hb dX8_addSolo_164 rfl (lv_at hl 0 rfl) ?_
                        refine g_get (C := RX8) (T := TX8) (N := 20) hx hb hts hown hK hP hMo.c0 nX8_addSolo_X8 rfl 0 (by decide) (by decide +kernel) rfl (v := .ref (mo + 1)) rfl dX8_addSolo_165 ?_
                        refine lv_sipush (v := (nI 268)) hx hb dX8_addSolo_168 (by decide) ?_
                        refine lv_iconst (v := (nI 3)) hx hb dX8_addSolo_171 (by decide) ?_
                        refine lv_iload hx hb dX8_addSolo_172 (lv_at hl 4 rfl) ?_
                        refine lv_imul hx hb dX8_addSolo_174 ?_
                        refine g_top (pk_mul 3 u) ?_
                        refine lv_iadd hx hb dX8_addSolo_175 ?_
                        refine g_top (nI_add 268 (3 * u)) ?_
                        refine lv_iload_n hx hb dX8_addSolo_176 rfl (lv_at hl 1 rfl) ?_
                        refine g_top (y := (nI (tk a1))) ha1e ?_
                        refine g_iast hx hb hK hP hL hS hMo.c1 (i := nI (268 + (3 * u))) (vp_in_nI (by omega) (by omega)) dX8_addSolo_177 (fun H locs hq hP hL hS => ?_)
                        rw [nI_clamp (n := 268 + (3 * u)) (by omega)] at hP hL
                        have hz := hq.trans hz
                        obtain ⟨σ2, e2⟩ : ∃ υ0 : gS, υ0 = gup υ (mo + 1) (gI 292 (upd ((sRow A_1 1 (mvU (A_1 1) (u + 1) (sK S + 1))) 1) (268 + (3 * u)) ((nI (tk a1))))) := ⟨_, rfl⟩
                        have hP : gH D ka σ2 H := by rw [e2]; exact hP
                        have hL : gL lo σ2 := by rw [e2]; exact hL
                        have hMo : MoAt σ2 mo (sRow (sRow A_1 1 (mvU (A_1 1) (u + 1) (sK S + 1))) 1 (upd ((sRow A_1 1 (mvU (A_1 1) (u + 1) (sK S + 1))) 1) (268 + (3 * u)) ((nI (tk a1))))) := by rw [e2]; exact hMo.w1 (upd ((sRow A_1 1 (mvU (A_1 1) (u + 1) (sK S + 1))) 1) (268 + (3 * u)) ((nI (tk a1))))
                        have hag := hag.upe e2 (zo_k (by decide))
                        refine lv_aload_n hx hb dX8_addSolo_178 rfl (lv_at hl 0 rfl) ?_
                        refine g_get (C := RX8) (T := TX8) (N := 20) hx hb hts hown hK hP hMo.c0 nX8_addSolo_X8 rfl 0 (by decide) (by decide +kernel) rfl (v := .ref (mo + 1)) rfl dX8_addSolo_179 ?_
                        refine lv_sipush (v := (nI 268)) hx hb dX8_addSolo_182 (by decide) ?_
                        refine lv_iconst (v := (nI 3)) hx hb dX8_addSolo_185 (by decide) ?_
                        refine lv_iload hx hb dX8_addSolo_186 (lv_at hl 4 rfl) ?_
                        refine lv_imul hx hb dX8_addSolo_188 ?_
                        refine g_top (pk_mul 3 u) ?_
                        refine lv_iadd hx hb dX8_addSolo_189 ?_
                        refine g_top (nI_add 268 (3 * u)) ?_
                        refine lv_iconst (v := (nI 1)) hx hb dX8_addSolo_190 (by decide) ?_
                        refine lv_iadd hx hb dX8_addSolo_191 ?_
                        refine g_top (nI_add (268 + (3 * u)) 1) ?_
                        refine lv_iload_n hx hb dX8_addSolo_192 rfl (lv_at hl 2 rfl) ?_
                        refine g_top (y := (nI (tk a2))) ha2e ?_
                        refine g_iast hx hb hK hP hL hS hMo.c1 (i := nI ((268 + (3 * u)) + 1)) (vp_in_nI (by omega) (by omega)) dX8_addSolo_193 (fun H locs hq hP hL hS => ?_)
                        rw [nI_clamp (n := (268 + (3 * u)) + 1) (by omega)] at hP hL
                        have hz := hq.trans hz
                        obtain ⟨σ3, e3⟩ : ∃ υ0 : gS, υ0 = gup σ2 (mo + 1) (gI 292 (upd ((sRow (sRow A_1 1 (mvU (A_1 1) (u + 1) (sK S + 1))) 1 (upd ((sRow A_1 1 (mvU (A_1 1) (u + 1) (sK S + 1))) 1) (268 + (3 * u)) ((nI (tk a1))))) 1) ((268 + (3 * u)) + 1) ((nI (tk a2))))) := ⟨_, rfl⟩
                        have hP : gH D ka σ3 H := by rw [e3]; exact hP
                        have hL : gL lo σ3 := by rw [e3]; exact hL
                        have hMo : MoAt σ3 mo (sRow (sRow (sRow A_1 1 (mvU (A_1 1) (u + 1) (sK S + 1))) 1 (upd ((sRow A_1 1 (mvU (A_1 1) (u + 1) (sK S + 1))) 1) (268 + (3 * u)) ((nI (tk a1))))) 1 (upd ((sRow (sRow A_1 1 (mvU (A_1 1) (u + 1) (sK S + 1))) 1 (upd ((sRow A_1 1 (mvU (A_1 1) (u + 1) (sK S + 1))) 1) (268 + (3 * u)) ((nI (tk a1))))) 1) ((268 + (3 * u)) + 1) ((nI (tk a2))))) := by rw [e3]; exact hMo.w1 (upd ((sRow (sRow A_1 1 (mvU (A_1 1) (u + 1) (sK S + 1))) 1 (upd ((sRow A_1 1 (mvU (A_1 1) (u + 1) (sK S + 1))) 1) (268 + (3 * u)) ((nI (tk a1))))) 1) ((268 + (3 * u)) + 1) ((nI (tk a2))))
                        have hag := hag.upe e3 (zo_k (by decide))
                        refine lv_aload_n hx hb dX8_addSolo_194 rfl (lv_at hl 0 rfl) ?_
                        refine g_get (C := RX8) (T := TX8) (N := 20) hx hb hts hown hK hP hMo.c0 nX8_addSolo_X8 rfl 0 (by decide) (by decide +kernel) rfl (v := .ref (mo + 1)) rfl dX8_addSolo_195 ?_
                        refine lv_sipush (v := (nI 268)) hx hb dX8_addSolo_198 (by decide) ?_
                        refine lv_iconst (v := (nI 3)) hx hb dX8_addSolo_201 (by decide) ?_
                        refine lv_iload hx hb dX8_addSolo_202 (lv_at hl 4 rfl) ?_
                        refine lv_imul hx hb dX8_addSolo_204 ?_
                        refine g_top (pk_mul 3 u) ?_
                        refine lv_iadd hx hb dX8_addSolo_205 ?_
                        refine g_top (nI_add 268 (3 * u)) ?_
                        refine lv_iconst (v := (nI 2)) hx hb dX8_addSolo_206 (by decide) ?_
                        refine lv_iadd hx hb dX8_addSolo_207 ?_
                        refine g_top (nI_add (268 + (3 * u)) 2) ?_
                        refine lv_iload_n hx hb dX8_addSolo_208 rfl (lv_at hl 3 rfl) ?_
                        refine g_top (y := (nI (tk a3))) ha3e ?_
                        refine g_iast hx hb hK hP hL hS hMo.c1 (i := nI ((268 + (3 * u)) + 2)) (vp_in_nI (by omega) (by omega)) dX8_addSolo_209 (fun H locs hq hP hL hS => ?_)
                        rw [nI_clamp (n := (268 + (3 * u)) + 2) (by omega)] at hP hL
                        have hz := hq.trans hz
                        obtain ⟨σ4, e4⟩ : ∃ υ0 : gS, υ0 = gup σ3 (mo + 1) (gI 292 (upd ((sRow (sRow (sRow A_1 1 (mvU (A_1 1) (u + 1) (sK S + 1))) 1 (upd ((sRow A_1 1 (mvU (A_1 1) (u + 1) (sK S + 1))) 1) (268 + (3 * u)) ((nI (tk a1))))) 1 (upd ((sRow (sRow A_1 1 (mvU (A_1 1) (u + 1) (sK S + 1))) 1 (upd ((sRow A_1 1 (mvU (A_1 1) (u + 1) (sK S + 1))) 1) (268 + (3 * u)) ((nI (tk a1))))) 1) ((268 + (3 * u)) + 1) ((nI (tk a2))))) 1) ((268 + (3 * u)) + 2) ((nI (tk a3))))) := ⟨_, rfl⟩
                        have hP : gH D ka σ4 H := by rw [e4]; exact hP
                        have hL : gL lo σ4 := by rw [e4]; exact hL
                        have hMo : MoAt σ4 mo (sRow (sRow (sRow (sRow A_1 1 (mvU (A_1 1) (u + 1) (sK S + 1))) 1 (upd ((sRow A_1 1 (mvU (A_1 1) (u + 1) (sK S + 1))) 1) (268 + (3 * u)) ((nI (tk a1))))) 1 (upd ((sRow (sRow A_1 1 (mvU (A_1 1) (u + 1) (sK S + 1))) 1 (upd ((sRow A_1 1 (mvU (A_1 1) (u + 1) (sK S + 1))) 1) (268 + (3 * u)) ((nI (tk a1))))) 1) ((268 + (3 * u)) + 1) ((nI (tk a2))))) 1 (upd ((sRow (sRow (sRow A_1 1 (mvU (A_1 1) (u + 1) (sK S + 1))) 1 (upd ((sRow A_1 1 (mvU (A_1 1) (u + 1) (sK S + 1))) 1) (268 + (3 * u)) ((nI (tk a1))))) 1 (upd ((sRow (sRow A_1 1 (mvU (A_1 1) (u + 1) (sK S + 1))) 1 (upd ((sRow A_1 1 (mvU (A_1 1) (u + 1) (sK S + 1))) 1) (268 + (3 * u)) ((nI (tk a1))))) 1) ((268 + (3 * u)) + 1) ((nI (tk a2))))) 1) ((268 + (3 * u)) + 2) ((nI (tk a3))))) := by rw [e4]; exact hMo.w1 (upd ((sRow (sRow (sRow A_1 1 (mvU (A_1 1) (u + 1) (sK S + 1))) 1 (upd ((sRow A_1 1 (mvU (A_1 1) (u + 1) (sK S + 1))) 1) (268 + (3 * u)) ((nI (tk a1))))) 1 (upd ((sRow (sRow A_1 1 (mvU (A_1 1) (u + 1) (sK S + 1))) 1 (upd ((sRow A_1 1 (mvU (A_1 1) (u + 1) (sK S + 1))) 1) (268 + (3 * u)) ((nI (tk a1))))) 1) ((268 + (3 * u)) + 1) ((nI (tk a2))))) 1) ((268 + (3 * u)) + 2) ((nI (tk a3))))
                        have hag := hag.upe e4 (zo_k (by decide))
                        obtain ⟨A3, hMo, hA3r, hA3o, hA3k⟩ : ∃ A3 : sS, MoAt σ4 mo A3 ∧ (∀ i : Nat, i ≠ 1 → A3 i = A_1 i) ∧ (∀ j : Nat, j < 268 → A3 1 j = A_1 1 j) ∧ (∀ k j : Nat, k ≤ sK S → j < 3 → A3 1 (268 + 3 * k + j) = if k < u then S (5 + j) k else if k = u then (if j = 0 then nI (tk a1) else if j = 1 then nI (tk a2) else nI (tk a3)) else S (5 + j) (k - 1)) := by
                          refine ⟨_, hMo, fun i hi => (sRow_n hi).trans ((sRow_n hi).trans ((sRow_n hi).trans (sRow_n hi))), fun j hj => by rw [sRow_s, upd_n (by omega), sRow_s, upd_n (by omega), sRow_s, upd_n (by omega), sRow_s]; simp only [mvU]; rw [if_neg (by omega)], fun k j hk hj => ?_⟩
                          by_cases c1 : k = u
                          · subst c1
                            rw [if_neg (by omega), if_pos rfl]
                            rcases (show j = 0 ∨ j = 1 ∨ j = 2 by omega) with rfl | rfl | rfl
                            · rw [sRow_s, upd_n (by omega), sRow_s, upd_n (by omega), sRow_s, if_pos rfl]; exact upd_s _ _ _
                            · rw [sRow_s, upd_n (by omega), sRow_s, upd_s, if_neg (by decide), if_pos rfl]
                            · rw [sRow_s, upd_s, if_neg (by decide), if_neg (by decide)]
                          · rw [sRow_s, upd_n (by omega), sRow_s, upd_n (by omega), sRow_s, upd_n (by omega), sRow_s]
                            simp only [mvU]
                            by_cases c2 : k < u
                            · rw [if_pos c2, if_neg (by omega)]; exact hR.ks (by omega) hj
                            · rw [if_neg c2, if_neg c1, if_pos (by omega), show 268 + 3 * k + j - 3 = 268 + 3 * (k - 1) + j by omega]; exact hR.ks (by omega) hj
                        refine lv_aload_n hx hb dX8_addSolo_210 rfl (lv_at hl 0 rfl) ?_
                        refine g_get (C := RX8) (T := TX8) (N := 20) hx hb hts hown hK hP hMo.c0 nX8_addSolo_X8 rfl 0 (by decide) (by decide +kernel) rfl (v := .ref (mo + 1)) rfl dX8_addSolo_211 ?_
                        refine lv_iconst (v := (nI 2)) hx hb dX8_addSolo_214 (by decide) ?_
                        refine lv_dup2_11 hx hb dX8_addSolo_215 rfl rfl ?_
                        refine g_iald hx hb hK hP hMo.c1 (i := nI 2) (vp_in_nI (by omega) (by omega)) dX8_addSolo_216 ?_
                        rw [nI_clamp (n := 2) (by omega)]
                        refine g_top (y := (nI (sK S))) (by rw [hA3o 2 (by decide)]; exact hR.k2) ?_
                        refine lv_iconst (v := (nI 1)) hx hb dX8_addSolo_217 (by decide) ?_
                        refine lv_iadd hx hb dX8_addSolo_218 ?_
                        refine g_top (nI_add (sK S) 1) ?_
                        refine g_iast hx hb hK hP hL hS hMo.c1 (i := nI 2) (vp_in_nI (by omega) (by omega)) dX8_addSolo_219 (fun H locs hq hP hL hS => ?_)
                        rw [nI_clamp (n := 2) (by omega)] at hP hL
                        have hz := hq.trans hz
                        obtain ⟨σ5, e5⟩ : ∃ υ0 : gS, υ0 = gup σ4 (mo + 1) (gI 292 (upd (A3 1) 2 ((nI ((sK S) + 1))))) := ⟨_, rfl⟩
                        have hP : gH D ka σ5 H := by rw [e5]; exact hP
                        have hL : gL lo σ5 := by rw [e5]; exact hL
                        have hMo : MoAt σ5 mo (sRow A3 1 (upd (A3 1) 2 ((nI ((sK S) + 1))))) := by rw [e5]; exact hMo.w1 (upd (A3 1) 2 ((nI ((sK S) + 1))))
                        have hag := hag.upe e5 (zo_k (by decide))
                        have hbx : ∀ j : Nat, j < 292 → A3 2 j = A 1 j := fun j hj => by rw [hA3r 2 (by decide)]; exact hb_1 j hj
                        have hkx : ∀ i : Nat, 3 ≤ i → A3 i = A i := fun i hi => (hA3r i (by omega)).trans (hr_1 i (by omega))
                        have h0x : A3 0 = A 0 := (hA3r 0 (by decide)).trans (hr_1 0 (by decide))
                        have hP0 : tN A3 0 = P := by show (A3 0 0).toNatClampNeg = P; rw [h0x]; exact hP0
                        refine lv_aload_n hx hb dX8_addSolo_220 rfl (lv_at hl 0 rfl) ?_
                        refine lv_iload hx hb dX8_addSolo_221 (lv_at hl 4 rfl) ?_
                        refine g_runV (As := [.int (nI u)]) (rest := []) (own := RX8) (C := RX8) (T := TX8) (N := 20) 1 hx hb hml hown hts hK hz hP hL hS hlo hl.1 (c_X8_done l mo (sRow A3 1 (upd (A3 1) 2 ((nI ((sK S) + 1))))) P ((nI u)) σ5 sz hMo (by first | exact hP0 | (show tN A_1 0 = P; show (A_1 0 0).toNatClampNeg = P; rw [hr_1 0 (by decide)]; exact hP0)) hP5) gX8_addSolo_X8_done rfl rfl rfl (by decide +kernel) ⟨Nat.le_of_ble_eq_true rfl, Nat.le_of_ble_eq_true rfl⟩ hMo.c0 rfl rfl rfl (Nat.le_of_ble_eq_true rfl) dX8_addSolo_223 ⟨Nat.le_of_ble_eq_true rfl, Nat.le_of_ble_eq_true rfl⟩ (g_kxi0 (fun r_6 τ_6 H locs z1 hz hp hP hL hS => ?_))
                        obtain ⟨hr9_6, hz1, ⟨D_6, hm_6, hd1_6, hd2_6, hd3_6, hd4_6⟩, ha_6⟩ := hp
                        have hz := hz.trans hz1
                        have hMo := hm_6
                        have hag := hag.tr ha_6 (fun q h => h)
                        subst hr9_6
                        exact g_iret (z := sz) hx hb hr hlk hz hP hL hS dX8_addSolo_226 (gxi_i (mP_s (by unfold o_addSolo; rw [if_pos (by first | exact c5 | exact nb c5 | exact Ne.symm c5 | exact fun q => q c5 | exact fun q => q c5.symm | omega), if_pos (by first | exact c13 | exact nb c13 | exact Ne.symm c13 | exact fun q => q c13 | exact fun q => q c13.symm | omega), if_pos (by first | exact c21 | exact nb c21 | exact Ne.symm c21 | exact fun q => q c21 | exact fun q => q c21.symm | omega), if_pos (by first | exact c28 | exact nb c28 | exact Ne.symm c28 | exact fun q => q c28 | exact fun q => q c28.symm | omega), if_neg (nb (by rw [ovF, ← hs0, fK_e (by omega)]; rfl)), if_pos (by omega), ← hip]) ⟨_, hMo, MeP.done hA hok hokC (fun j hj => by first | exact hb_1 j hj | exact hbx j hj) (fun i h1 h2 => (sRow_n (by omega)).trans (hkx i h1)) (by first | exact hr_1 0 (by decide) | exact h0x) (by rw [sRow_s]; refine hR0A.putSolo hok (by omega) (upd_s _ _ _) (fun j h1 h2 => (upd_n h1).trans (hA3o j h2)) (fun k j h1 h2 => ?_); rw [upd_n (by omega), hA3k k j h1 h2, hip]) hd1_6 hd2_6 hd3_6 hd4_6⟩ rfl hag))
                      · refine lv_aload_n hx hb dX8_addSolo_104 rfl (lv_at hl 0 rfl) ?_
                        refine lv_iload hx hb dX8_addSolo_105 (lv_at hl 4 rfl) ?_
                        refine lv_iconst (v := (nI 1)) hx hb dX8_addSolo_107 (by decide) ?_
                        refine lv_isub hx hb dX8_addSolo_108 ?_
                        refine g_top (pk_sub (by omega : 1 ≤ u)) ?_
                        refine lv_iconst (v := (nI 1)) hx hb dX8_addSolo_109 (by decide) ?_
                        refine g_runV (As := [.int (nI (u - 1)), .int (nI 1)]) (rest := []) (own := RX8) (C := RX8) (T := TX8) (N := 20) 2 hx hb hml hown hts hK hz hP hL hS hlo hl.1 (c_X8_soloOf_r l mo (sRow A_1 1 (mvU (A_1 1) (u + 1) (sK S + 1))) (u - 1) 1 υ sz hMo (by omega) (by omega)) gX8_addSolo_X8_soloOf rfl rfl rfl (by decide +kernel) ⟨Nat.le_of_ble_eq_true rfl, Nat.le_of_ble_eq_true rfl⟩ hMo.c0 rfl rfl rfl (Nat.le_of_ble_eq_true rfl) dX8_addSolo_110 ⟨Nat.le_of_ble_eq_true rfl, Nat.le_of_ble_eq_true rfl⟩ (g_ki0 (fun H locs hz hP hL hS => ?_))
                        refine g_top (y := (S 6 (u - 1))) (by rw [sRow_s]; simp only [mvU]; rw [if_neg (by omega)]; exact hR.ks (k := u - 1) (j := 1) (by omega) (by decide)) ?_
                        refine lv_iload_n hx hb dX8_addSolo_113 rfl (lv_at hl 2 rfl) ?_
                        refine g_top (y := (nI (tk a2))) ha2e ?_
                        refine lv_icmp_le (tgt := 164) hx hb dX8_addSolo_114 (by decide) (fun c114 => ?_) (fun c114 => ?_)
                        · have hip : u = insP S (tk a2) (sK S) := by rw [← hs, insP_1 (by omega) c114]
                          refine lv_aload_n hx hb dX8_addSolo_164 rfl (lv_at hl 0 rfl) ?_
                          refine g_get (C := RX8) (T := TX8) (N := 20) hx hb hts hown hK hP hMo.c0 nX8_addSolo_X8 rfl 0 (by decide) (by decide +kernel) rfl (v := .ref (mo + 1)) rfl dX8_addSolo_165 ?_
                          refine lv_sipush (v := (nI 268)) hx hb dX8_addSolo_168 (by decide) ?_
                          refine lv_iconst (v := (nI 3)) hx hb dX8_addSolo_171 (by decide) ?_
                          refine lv_iload hx hb dX8_addSolo_172 (lv_at hl 4 rfl) ?_
                          refine lv_imul hx hb dX8_addSolo_174 ?_
                          refine g_top (pk_mul 3 u) ?_
                          refine lv_iadd hx hb dX8_addSolo_175 ?_
                          refine g_top (nI_add 268 (3 * u)) ?_
                          refine lv_iload_n hx hb dX8_addSolo_176 rfl (lv_at hl 1 rfl) ?_
                          refine g_top (y := (nI (tk a1))) ha1e ?_
                          refine g_iast hx hb hK hP hL hS hMo.c1 (i := nI (268 + (3 * u))) (vp_in_nI (by omega) (by omega)) dX8_addSolo_177 (fun H locs hq hP hL hS => ?_)
                          rw [nI_clamp (n := 268 + (3 * u)) (by omega)] at hP hL
                          have hz := hq.trans hz
                          obtain ⟨σ7, e7⟩ : ∃ υ0 : gS, υ0 = gup υ (mo + 1) (gI 292 (upd ((sRow A_1 1 (mvU (A_1 1) (u + 1) (sK S + 1))) 1) (268 + (3 * u)) ((nI (tk a1))))) := ⟨_, rfl⟩
                          have hP : gH D ka σ7 H := by rw [e7]; exact hP
                          have hL : gL lo σ7 := by rw [e7]; exact hL
                          have hMo : MoAt σ7 mo (sRow (sRow A_1 1 (mvU (A_1 1) (u + 1) (sK S + 1))) 1 (upd ((sRow A_1 1 (mvU (A_1 1) (u + 1) (sK S + 1))) 1) (268 + (3 * u)) ((nI (tk a1))))) := by rw [e7]; exact hMo.w1 (upd ((sRow A_1 1 (mvU (A_1 1) (u + 1) (sK S + 1))) 1) (268 + (3 * u)) ((nI (tk a1))))
                          have hag := hag.upe e7 (zo_k (by decide))
                          refine lv_aload_n hx hb dX8_addSolo_178 rfl (lv_at hl 0 rfl) ?_
                          refine g_get (C := RX8) (T := TX8) (N := 20) hx hb hts hown hK hP hMo.c0 nX8_addSolo_X8 rfl 0 (by decide) (by decide +kernel) rfl (v := .ref (mo + 1)) rfl dX8_addSolo_179 ?_
                          refine lv_sipush (v := (nI 268)) hx hb dX8_addSolo_182 (by decide) ?_
                          refine lv_iconst (v := (nI 3)) hx hb dX8_addSolo_185 (by decide) ?_
                          refine lv_iload hx hb dX8_addSolo_186 (lv_at hl 4 rfl) ?_
                          refine lv_imul hx hb dX8_addSolo_188 ?_
                          refine g_top (pk_mul 3 u) ?_
                          refine lv_iadd hx hb dX8_addSolo_189 ?_
                          refine g_top (nI_add 268 (3 * u)) ?_
                          refine lv_iconst (v := (nI 1)) hx hb dX8_addSolo_190 (by decide) ?_
                          refine lv_iadd hx hb dX8_addSolo_191 ?_
                          refine g_top (nI_add (268 + (3 * u)) 1) ?_
                          refine lv_iload_n hx hb dX8_addSolo_192 rfl (lv_at hl 2 rfl) ?_
                          refine g_top (y := (nI (tk a2))) ha2e ?_
                          refine g_iast hx hb hK hP hL hS hMo.c1 (i := nI ((268 + (3 * u)) + 1)) (vp_in_nI (by omega) (by omega)) dX8_addSolo_193 (fun H locs hq hP hL hS => ?_)
                          rw [nI_clamp (n := (268 + (3 * u)) + 1) (by omega)] at hP hL
                          have hz := hq.trans hz
                          obtain ⟨σ8, e8⟩ : ∃ υ0 : gS, υ0 = gup σ7 (mo + 1) (gI 292 (upd ((sRow (sRow A_1 1 (mvU (A_1 1) (u + 1) (sK S + 1))) 1 (upd ((sRow A_1 1 (mvU (A_1 1) (u + 1) (sK S + 1))) 1) (268 + (3 * u)) ((nI (tk a1))))) 1) ((268 + (3 * u)) + 1) ((nI (tk a2))))) := ⟨_, rfl⟩
                          have hP : gH D ka σ8 H := by rw [e8]; exact hP
                          have hL : gL lo σ8 := by rw [e8]; exact hL
                          have hMo : MoAt σ8 mo (sRow (sRow (sRow A_1 1 (mvU (A_1 1) (u + 1) (sK S + 1))) 1 (upd ((sRow A_1 1 (mvU (A_1 1) (u + 1) (sK S + 1))) 1) (268 + (3 * u)) ((nI (tk a1))))) 1 (upd ((sRow (sRow A_1 1 (mvU (A_1 1) (u + 1) (sK S + 1))) 1 (upd ((sRow A_1 1 (mvU (A_1 1) (u + 1) (sK S + 1))) 1) (268 + (3 * u)) ((nI (tk a1))))) 1) ((268 + (3 * u)) + 1) ((nI (tk a2))))) := by rw [e8]; exact hMo.w1 (upd ((sRow (sRow A_1 1 (mvU (A_1 1) (u + 1) (sK S + 1))) 1 (upd ((sRow A_1 1 (mvU (A_1 1) (u + 1) (sK S + 1))) 1) (268 + (3 * u)) ((nI (tk a1))))) 1) ((268 + (3 * u)) + 1) ((nI (tk a2))))
                          have hag := hag.upe e8 (zo_k (by decide))
                          refine lv_aload_n hx hb dX8_addSolo_194 rfl (lv_at hl 0 rfl) ?_
                          refine g_get (C := RX8) (T := TX8) (N := 20) hx hb hts hown hK hP hMo.c0 nX8_addSolo_X8 rfl 0 (by decide) (by decide +kernel) rfl (v := .ref (mo + 1)) rfl dX8_addSolo_195 ?_
                          refine lv_sipush (v := (nI 268)) hx hb dX8_addSolo_198 (by decide) ?_
                          refine lv_iconst (v := (nI 3)) hx hb dX8_addSolo_201 (by decide) ?_
                          refine lv_iload hx hb dX8_addSolo_202 (lv_at hl 4 rfl) ?_
                          refine lv_imul hx hb dX8_addSolo_204 ?_
                          refine g_top (pk_mul 3 u) ?_
                          refine lv_iadd hx hb dX8_addSolo_205 ?_
                          refine g_top (nI_add 268 (3 * u)) ?_
                          refine lv_iconst (v := (nI 2)) hx hb dX8_addSolo_206 (by decide) ?_
                          refine lv_iadd hx hb dX8_addSolo_207 ?_
                          refine g_top (nI_add (268 + (3 * u)) 2) ?_
                          refine lv_iload_n hx hb dX8_addSolo_208 rfl (lv_at hl 3 rfl) ?_
                          refine g_top (y := (nI (tk a3))) ha3e ?_
                          refine g_iast hx hb hK hP hL hS hMo.c1 (i := nI ((268 + (3 * u)) + 2)) (vp_in_nI (by omega) (by omega)) dX8_addSolo_209 (fun H locs hq hP hL hS => ?_)
                          rw [nI_clamp (n := (268 + (3 * u)) + 2) (by omega)] at hP hL
                          have hz := hq.trans hz
                          obtain ⟨σ9, e9⟩ : ∃ υ0 : gS, υ0 = gup σ8 (mo + 1) (gI 292 (upd ((sRow (sRow (sRow A_1 1 (mvU (A_1 1) (u + 1) (sK S + 1))) 1 (upd ((sRow A_1 1 (mvU (A_1 1) (u + 1) (sK S + 1))) 1) (268 + (3 * u)) ((nI (tk a1))))) 1 (upd ((sRow (sRow A_1 1 (mvU (A_1 1) (u + 1) (sK S + 1))) 1 (upd ((sRow A_1 1 (mvU (A_1 1) (u + 1) (sK S + 1))) 1) (268 + (3 * u)) ((nI (tk a1))))) 1) ((268 + (3 * u)) + 1) ((nI (tk a2))))) 1) ((268 + (3 * u)) + 2) ((nI (tk a3))))) := ⟨_, rfl⟩
                          have hP : gH D ka σ9 H := by rw [e9]; exact hP
                          have hL : gL lo σ9 := by rw [e9]; exact hL
                          have hMo : MoAt σ9 mo (sRow (sRow (sRow (sRow A_1 1 (mvU (A_1 1) (u + 1) (sK S + 1))) 1 (upd ((sRow A_1 1 (mvU (A_1 1) (u + 1) (sK S + 1))) 1) (268 + (3 * u)) ((nI (tk a1))))) 1 (upd ((sRow (sRow A_1 1 (mvU (A_1 1) (u + 1) (sK S + 1))) 1 (upd ((sRow A_1 1 (mvU (A_1 1) (u + 1) (sK S + 1))) 1) (268 + (3 * u)) ((nI (tk a1))))) 1) ((268 + (3 * u)) + 1) ((nI (tk a2))))) 1 (upd ((sRow (sRow (sRow A_1 1 (mvU (A_1 1) (u + 1) (sK S + 1))) 1 (upd ((sRow A_1 1 (mvU (A_1 1) (u + 1) (sK S + 1))) 1) (268 + (3 * u)) ((nI (tk a1))))) 1 (upd ((sRow (sRow A_1 1 (mvU (A_1 1) (u + 1) (sK S + 1))) 1 (upd ((sRow A_1 1 (mvU (A_1 1) (u + 1) (sK S + 1))) 1) (268 + (3 * u)) ((nI (tk a1))))) 1) ((268 + (3 * u)) + 1) ((nI (tk a2))))) 1) ((268 + (3 * u)) + 2) ((nI (tk a3))))) := by rw [e9]; exact hMo.w1 (upd ((sRow (sRow (sRow A_1 1 (mvU (A_1 1) (u + 1) (sK S + 1))) 1 (upd ((sRow A_1 1 (mvU (A_1 1) (u + 1) (sK S + 1))) 1) (268 + (3 * u)) ((nI (tk a1))))) 1 (upd ((sRow (sRow A_1 1 (mvU (A_1 1) (u + 1) (sK S + 1))) 1 (upd ((sRow A_1 1 (mvU (A_1 1) (u + 1) (sK S + 1))) 1) (268 + (3 * u)) ((nI (tk a1))))) 1) ((268 + (3 * u)) + 1) ((nI (tk a2))))) 1) ((268 + (3 * u)) + 2) ((nI (tk a3))))
                          have hag := hag.upe e9 (zo_k (by decide))
                          obtain ⟨A3, hMo, hA3r, hA3o, hA3k⟩ : ∃ A3 : sS, MoAt σ9 mo A3 ∧ (∀ i : Nat, i ≠ 1 → A3 i = A_1 i) ∧ (∀ j : Nat, j < 268 → A3 1 j = A_1 1 j) ∧ (∀ k j : Nat, k ≤ sK S → j < 3 → A3 1 (268 + 3 * k + j) = if k < u then S (5 + j) k else if k = u then (if j = 0 then nI (tk a1) else if j = 1 then nI (tk a2) else nI (tk a3)) else S (5 + j) (k - 1)) := by
                            refine ⟨_, hMo, fun i hi => (sRow_n hi).trans ((sRow_n hi).trans ((sRow_n hi).trans (sRow_n hi))), fun j hj => by rw [sRow_s, upd_n (by omega), sRow_s, upd_n (by omega), sRow_s, upd_n (by omega), sRow_s]; simp only [mvU]; rw [if_neg (by omega)], fun k j hk hj => ?_⟩
                            by_cases c1 : k = u
                            · subst c1
                              rw [if_neg (by omega), if_pos rfl]
                              rcases (show j = 0 ∨ j = 1 ∨ j = 2 by omega) with rfl | rfl | rfl
                              · rw [sRow_s, upd_n (by omega), sRow_s, upd_n (by omega), sRow_s, if_pos rfl]; exact upd_s _ _ _
                              · rw [sRow_s, upd_n (by omega), sRow_s, upd_s, if_neg (by decide), if_pos rfl]
                              · rw [sRow_s, upd_s, if_neg (by decide), if_neg (by decide)]
                            · rw [sRow_s, upd_n (by omega), sRow_s, upd_n (by omega), sRow_s, upd_n (by omega), sRow_s]
                              simp only [mvU]
                              by_cases c2 : k < u
                              · rw [if_pos c2, if_neg (by omega)]; exact hR.ks (by omega) hj
                              · rw [if_neg c2, if_neg c1, if_pos (by omega), show 268 + 3 * k + j - 3 = 268 + 3 * (k - 1) + j by omega]; exact hR.ks (by omega) hj
                          refine lv_aload_n hx hb dX8_addSolo_210 rfl (lv_at hl 0 rfl) ?_
                          refine g_get (C := RX8) (T := TX8) (N := 20) hx hb hts hown hK hP hMo.c0 nX8_addSolo_X8 rfl 0 (by decide) (by decide +kernel) rfl (v := .ref (mo + 1)) rfl dX8_addSolo_211 ?_
                          refine lv_iconst (v := (nI 2)) hx hb dX8_addSolo_214 (by decide) ?_
                          refine lv_dup2_11 hx hb dX8_addSolo_215 rfl rfl ?_
                          refine g_iald hx hb hK hP hMo.c1 (i := nI 2) (vp_in_nI (by omega) (by omega)) dX8_addSolo_216 ?_
                          rw [nI_clamp (n := 2) (by omega)]
                          refine g_top (y := (nI (sK S))) (by rw [hA3o 2 (by decide)]; exact hR.k2) ?_
                          refine lv_iconst (v := (nI 1)) hx hb dX8_addSolo_217 (by decide) ?_
                          refine lv_iadd hx hb dX8_addSolo_218 ?_
                          refine g_top (nI_add (sK S) 1) ?_
                          refine g_iast hx hb hK hP hL hS hMo.c1 (i := nI 2) (vp_in_nI (by omega) (by omega)) dX8_addSolo_219 (fun H locs hq hP hL hS => ?_)
                          rw [nI_clamp (n := 2) (by omega)] at hP hL
                          have hz := hq.trans hz
                          obtain ⟨σ10, e10⟩ : ∃ υ0 : gS, υ0 = gup σ9 (mo + 1) (gI 292 (upd (A3 1) 2 ((nI ((sK S) + 1))))) := ⟨_, rfl⟩
                          have hP : gH D ka σ10 H := by rw [e10]; exact hP
                          have hL : gL lo σ10 := by rw [e10]; exact hL
                          have hMo : MoAt σ10 mo (sRow A3 1 (upd (A3 1) 2 ((nI ((sK S) + 1))))) := by rw [e10]; exact hMo.w1 (upd (A3 1) 2 ((nI ((sK S) + 1))))
                          have hag := hag.upe e10 (zo_k (by decide))
                          have hbx : ∀ j : Nat, j < 292 → A3 2 j = A 1 j := fun j hj => by rw [hA3r 2 (by decide)]; exact hb_1 j hj
                          have hkx : ∀ i : Nat, 3 ≤ i → A3 i = A i := fun i hi => (hA3r i (by omega)).trans (hr_1 i (by omega))
                          have h0x : A3 0 = A 0 := (hA3r 0 (by decide)).trans (hr_1 0 (by decide))
                          have hP0 : tN A3 0 = P := by show (A3 0 0).toNatClampNeg = P; rw [h0x]; exact hP0
                          refine lv_aload_n hx hb dX8_addSolo_220 rfl (lv_at hl 0 rfl) ?_
                          refine lv_iload hx hb dX8_addSolo_221 (lv_at hl 4 rfl) ?_
                          refine g_runV (As := [.int (nI u)]) (rest := []) (own := RX8) (C := RX8) (T := TX8) (N := 20) 1 hx hb hml hown hts hK hz hP hL hS hlo hl.1 (c_X8_done l mo (sRow A3 1 (upd (A3 1) 2 ((nI ((sK S) + 1))))) P ((nI u)) σ10 sz hMo (by first | exact hP0 | (show tN A_1 0 = P; show (A_1 0 0).toNatClampNeg = P; rw [hr_1 0 (by decide)]; exact hP0)) hP5) gX8_addSolo_X8_done rfl rfl rfl (by decide +kernel) ⟨Nat.le_of_ble_eq_true rfl, Nat.le_of_ble_eq_true rfl⟩ hMo.c0 rfl rfl rfl (Nat.le_of_ble_eq_true rfl) dX8_addSolo_223 ⟨Nat.le_of_ble_eq_true rfl, Nat.le_of_ble_eq_true rfl⟩ (g_kxi0 (fun r_11 τ_11 H locs z1 hz hp hP hL hS => ?_))
                          obtain ⟨hr9_11, hz1, ⟨D_11, hm_11, hd1_11, hd2_11, hd3_11, hd4_11⟩, ha_11⟩ := hp
                          have hz := hz.trans hz1
                          have hMo := hm_11
                          have hag := hag.tr ha_11 (fun q h => h)
                          subst hr9_11
                          exact g_iret (z := sz) hx hb hr hlk hz hP hL hS dX8_addSolo_226 (gxi_i (mP_s (by unfold o_addSolo; rw [if_pos (by first | exact c5 | exact nb c5 | exact Ne.symm c5 | exact fun q => q c5 | exact fun q => q c5.symm | omega), if_pos (by first | exact c13 | exact nb c13 | exact Ne.symm c13 | exact fun q => q c13 | exact fun q => q c13.symm | omega), if_pos (by first | exact c21 | exact nb c21 | exact Ne.symm c21 | exact fun q => q c21 | exact fun q => q c21.symm | omega), if_pos (by first | exact c28 | exact nb c28 | exact Ne.symm c28 | exact fun q => q c28 | exact fun q => q c28.symm | omega), if_neg (nb (by rw [ovF, ← hs0, fK_e (by omega)]; rfl)), if_pos (by omega), ← hip]) ⟨_, hMo, MeP.done hA hok hokC (fun j hj => by first | exact hb_1 j hj | exact hbx j hj) (fun i h1 h2 => (sRow_n (by omega)).trans (hkx i h1)) (by first | exact hr_1 0 (by decide) | exact h0x) (by rw [sRow_s]; refine hR0A.putSolo hok (by omega) (upd_s _ _ _) (fun j h1 h2 => (upd_n h1).trans (hA3o j h2)) (fun k j h1 h2 => ?_); rw [upd_n (by omega), hA3k k j h1 h2, hip]) hd1_11 hd2_11 hd3_11 hd4_11⟩ rfl hag))
                        · refine lv_iconst (v := (nI 0)) hx hb dX8_addSolo_117 (by decide) ?_
                          refine lv_istore (lv' := [(5, .int (nI 0)), (0, .ref mo), (1, .int a1), (2, .int a2), (3, .int a3), (4, .int (nI u))]) hx hb dX8_addSolo_118 hl (by decide) rfl (fun ls hl => ?_)
                          have lr : ∀ (fu_lr : Nat) (j : Nat), (j ≤ 3) → (3 - j < fu_lr) → ∀ (υ : gS), (MoAt υ mo (sRow A_1 1 (mvV (A_1 1) u (sK S + 1) j))) → (gAs (gZo mo 16) σ υ) → gL lo υ → ∀ (H : Heap) (locs : List Loc) (ls : Array Slot), H.size = sz → gH D ka υ H → va_S (gA lo) s.heap H locs → lv_has ls 6 [(0, .ref mo), (1, .int a1), (2, .int a2), (3, .int a3), (4, .int (nI u)), (5, .int (nI j))] → W p l e ({ frames := 2, cells := 0, slots := 0, locals := 43 } : Room) s m ([.ref mo, .int a1, .int a2, .int a3] : List Value).toArray below meth c H locs (0) (0) (MQ below (gQ D ka lo (gxi (fun r τ n => mP mo σ S tf tn P C kp sz (o_addSolo S a1 a2 a3) r τ n))) ([.ref mo, .int a1, .int a2, .int a3] : List Value).toArray s 0 0 (gA lo)) (F0 m 120 ls []) := by
                            intro fu_lr
                            induction fu_lr with
                            | zero => intro j hj hm_lr; exact absurd hm_lr (Nat.not_lt_zero _)
                            | succ fu_lr ih_lr =>
                              intro j hj hm_lr υ hMo hag hL H locs ls hz hP hS hl
                              refine lv_iload hx hb dX8_addSolo_120 (lv_at hl 5 rfl) ?_
                              refine lv_iconst (v := (nI 3)) hx hb dX8_addSolo_122 (by decide) ?_
                              refine g_icmp_ge (tgt := 158) (a := j) (b := 3) hx hb (by omega) (by omega) dX8_addSolo_123 (by decide) (fun c123 => ?_) (fun c123 => ?_)
                              · refine lv_iinc (v := (nI (u - 1))) (lv' := [(4, .int (nI (u - 1))), (0, .ref mo), (1, .int a1), (2, .int a2), (3, .int a3), (5, .int (nI j))]) hx hb dX8_addSolo_158 hl (k := 4) rfl (g_dec (by omega)) (by decide) rfl (fun ls hl => ?_)
                                refine lv_goto (tgt := 99) hx hb dX8_addSolo_161 (by decide) ?_
                                exact ih_lq (u - 1) (by omega) ((insP_s (by omega) c114).trans hs) (by omega) υ (by rw [show u - 1 + 1 = u by omega, ← mvV_3 (by omega), show (3 : Nat) = j by omega]; exact hMo) hag hL H locs ls hz hP hS (lv_sub hl [1, 2, 3, 4, 0] rfl)
                              · refine lv_aload_n hx hb dX8_addSolo_126 rfl (lv_at hl 0 rfl) ?_
                                refine g_get (C := RX8) (T := TX8) (N := 20) hx hb hts hown hK hP hMo.c0 nX8_addSolo_X8 rfl 0 (by decide) (by decide +kernel) rfl (v := .ref (mo + 1)) rfl dX8_addSolo_127 ?_
                                refine lv_sipush (v := (nI 268)) hx hb dX8_addSolo_130 (by decide) ?_
                                refine lv_iconst (v := (nI 3)) hx hb dX8_addSolo_133 (by decide) ?_
                                refine lv_iload hx hb dX8_addSolo_134 (lv_at hl 4 rfl) ?_
                                refine lv_imul hx hb dX8_addSolo_136 ?_
                                refine g_top (pk_mul 3 u) ?_
                                refine lv_iadd hx hb dX8_addSolo_137 ?_
                                refine g_top (nI_add 268 (3 * u)) ?_
                                refine lv_iload hx hb dX8_addSolo_138 (lv_at hl 5 rfl) ?_
                                refine lv_iadd hx hb dX8_addSolo_140 ?_
                                refine g_top (nI_add (268 + (3 * u)) j) ?_
                                refine lv_aload_n hx hb dX8_addSolo_141 rfl (lv_at hl 0 rfl) ?_
                                refine lv_iload hx hb dX8_addSolo_142 (lv_at hl 4 rfl) ?_
                                refine lv_iconst (v := (nI 1)) hx hb dX8_addSolo_144 (by decide) ?_
                                refine lv_isub hx hb dX8_addSolo_145 ?_
                                refine g_top (pk_sub (by omega : 1 ≤ u)) ?_
                                refine lv_iload hx hb dX8_addSolo_146 (lv_at hl 5 rfl) ?_
                                refine g_runV (As := [.int (nI (u - 1)), .int (nI j)]) (rest := [.int (nI ((268 + (3 * u)) + j)), .ref (mo + 1)]) (own := RX8) (C := RX8) (T := TX8) (N := 20) 2 hx hb hml hown hts hK hz hP hL hS hlo hl.1 (c_X8_soloOf_r l mo (sRow A_1 1 (mvV (A_1 1) u (sK S + 1) j)) (u - 1) j υ sz hMo (by omega) (by omega)) gX8_addSolo_X8_soloOf rfl rfl rfl (by decide +kernel) ⟨Nat.le_of_ble_eq_true rfl, Nat.le_of_ble_eq_true rfl⟩ hMo.c0 rfl rfl rfl (Nat.le_of_ble_eq_true rfl) dX8_addSolo_148 ⟨Nat.le_of_ble_eq_true rfl, Nat.le_of_ble_eq_true rfl⟩ (g_ki0 (fun H locs hz hP hL hS => ?_))
                                refine g_iast hx hb hK hP hL hS hMo.c1 (i := nI ((268 + (3 * u)) + j)) (vp_in_nI (by omega) (by omega)) dX8_addSolo_151 (fun H locs hq hP hL hS => ?_)
                                rw [nI_clamp (n := (268 + (3 * u)) + j) (by omega)] at hP hL
                                have hz := hq.trans hz
                                obtain ⟨σ12, e12⟩ : ∃ υ0 : gS, υ0 = gup υ (mo + 1) (gI 292 (upd ((sRow A_1 1 (mvV (A_1 1) u (sK S + 1) j)) 1) ((268 + (3 * u)) + j) (((sRow A_1 1 (mvV (A_1 1) u (sK S + 1) j)) 1 (268 + 3 * (u - 1) + j))))) := ⟨_, rfl⟩
                                have hP : gH D ka σ12 H := by rw [e12]; exact hP
                                have hL : gL lo σ12 := by rw [e12]; exact hL
                                have hMo : MoAt σ12 mo (sRow (sRow A_1 1 (mvV (A_1 1) u (sK S + 1) j)) 1 (upd ((sRow A_1 1 (mvV (A_1 1) u (sK S + 1) j)) 1) ((268 + (3 * u)) + j) (((sRow A_1 1 (mvV (A_1 1) u (sK S + 1) j)) 1 (268 + 3 * (u - 1) + j))))) := by rw [e12]; exact hMo.w1 (upd ((sRow A_1 1 (mvV (A_1 1) u (sK S + 1) j)) 1) ((268 + (3 * u)) + j) (((sRow A_1 1 (mvV (A_1 1) u (sK S + 1) j)) 1 (268 + 3 * (u - 1) + j))))
                                have hag := hag.upe e12 (zo_k (by decide))
                                refine lv_iinc (v := (nI (j + 1))) (lv' := [(5, .int (nI (j + 1))), (0, .ref mo), (1, .int a1), (2, .int a2), (3, .int a3), (4, .int (nI u))]) hx hb dX8_addSolo_152 hl (k := 5) rfl (g_inc j 1) (by decide) rfl (fun ls hl => ?_)
                                refine lv_goto (tgt := 120) hx hb dX8_addSolo_155 (by decide) ?_
                                exact ih_lr (j + 1) (by omega) (by omega) σ12 (by rw [← mvV_s (by omega) (by omega)]; exact hMo) hag hL H locs ls hz hP hS (lv_sub hl [1, 2, 3, 4, 5, 0] rfl)
                          exact lr _ 0 (by omega) (Nat.lt_succ_self _) υ (by rw [mvV_0]; exact hMo) hag hL H locs ls hz hP hS (lv_sub hl [1, 2, 3, 4, 5, 0] rfl)
                  exact lq _ (sK S) (Nat.le_refl _) rfl (Nat.lt_succ_self _) τ_1 (by rw [mvU_0]; exact hMo) hag hL H locs ls hz hP hS (lv_sub hl [1, 2, 3, 4, 0] rfl)
                · refine lv_bipush (v := (-3)) hx hb dX8_addSolo_86 (by decide) ?_
                  exact g_iret (z := sz) hx hb hr hlk hz hP hL hS dX8_addSolo_88 (gxi_i (mP_n (by unfold o_addSolo; rw [if_pos (by first | exact c5 | exact nb c5 | exact Ne.symm c5 | exact fun q => q c5 | exact fun q => q c5.symm | omega), if_pos (by first | exact c13 | exact nb c13 | exact Ne.symm c13 | exact fun q => q c13 | exact fun q => q c13.symm | omega), if_pos (by first | exact c21 | exact nb c21 | exact Ne.symm c21 | exact fun q => q c21 | exact fun q => q c21.symm | omega), if_pos (by first | exact c28 | exact nb c28 | exact Ne.symm c28 | exact fun q => q c28 | exact fun q => q c28.symm | omega), if_neg (nb (by rw [ovF, ← hs0, fK_e (by omega)]; rfl)), if_neg (by omega)]) ⟨_, hMo, hA⟩ rfl hag))
              · refine lv_aload_n hx hb dX8_addSolo_46 rfl (lv_at hl 0 rfl) ?_
                refine lv_iload hx hb dX8_addSolo_47 (lv_at hl 4 rfl) ?_
                refine lv_iconst (v := (nI 1)) hx hb dX8_addSolo_49 (by decide) ?_
                refine g_runV (As := [.int (nI k), .int (nI 1)]) (rest := []) (own := RX8) (C := RX8) (T := TX8) (N := 20) 2 hx hb hml hown hts hK hz hP hL hS hlo hl.1 (c_X8_soloOf l mo A S k 1 σ sz hMo hR (by omega) (by omega) (by omega)) gX8_addSolo_X8_soloOf rfl rfl rfl (by decide +kernel) ⟨Nat.le_of_ble_eq_true rfl, Nat.le_of_ble_eq_true rfl⟩ hMo.c0 rfl rfl rfl (Nat.le_of_ble_eq_true rfl) dX8_addSolo_50 ⟨Nat.le_of_ble_eq_true rfl, Nat.le_of_ble_eq_true rfl⟩ (g_ki0 (fun H locs hz hP hL hS => ?_))
                refine lv_iload_n hx hb dX8_addSolo_53 rfl (lv_at hl 3 rfl) ?_
                refine g_top (y := (nI (tk a3))) ha3e ?_
                refine lv_icmp_gt (tgt := 71) hx hb dX8_addSolo_54 (by decide) (fun c54 => ?_) (fun c54 => ?_)
                · refine lv_iinc (v := (nI (k + 1))) (lv' := [(4, .int (nI (k + 1))), (0, .ref mo), (1, .int a1), (2, .int a2), (3, .int a3)]) hx hb dX8_addSolo_71 hl (k := 4) rfl (g_inc k 1) (by decide) rfl (fun ls hl => ?_)
                  refine lv_goto (tgt := 37) hx hb dX8_addSolo_74 (by decide) ?_
                  exact ih_lp (k + 1) (by omega) ((fK_s (p := ovl S (tk a2) (tk a3)) (by omega) (ovl_1 c54)).trans hs) (by omega) H locs ls hz hP hS (lv_sub hl [1, 2, 3, 4, 0] rfl)
                · refine lv_aload_n hx hb dX8_addSolo_57 rfl (lv_at hl 0 rfl) ?_
                  refine lv_iload hx hb dX8_addSolo_58 (lv_at hl 4 rfl) ?_
                  refine lv_iconst (v := (nI 2)) hx hb dX8_addSolo_60 (by decide) ?_
                  refine g_runV (As := [.int (nI k), .int (nI 2)]) (rest := []) (own := RX8) (C := RX8) (T := TX8) (N := 20) 2 hx hb hml hown hts hK hz hP hL hS hlo hl.1 (c_X8_soloOf l mo A S k 2 σ sz hMo hR (by omega) (by omega) (by omega)) gX8_addSolo_X8_soloOf rfl rfl rfl (by decide +kernel) ⟨Nat.le_of_ble_eq_true rfl, Nat.le_of_ble_eq_true rfl⟩ hMo.c0 rfl rfl rfl (Nat.le_of_ble_eq_true rfl) dX8_addSolo_61 ⟨Nat.le_of_ble_eq_true rfl, Nat.le_of_ble_eq_true rfl⟩ (g_ki0 (fun H locs hz hP hL hS => ?_))
                  refine lv_iload_n hx hb dX8_addSolo_64 rfl (lv_at hl 2 rfl) ?_
                  refine g_top (y := (nI (tk a2))) ha2e ?_
                  refine lv_icmp_lt (tgt := 71) hx hb dX8_addSolo_65 (by decide) (fun c65 => ?_) (fun c65 => ?_)
                  · refine lv_iinc (v := (nI (k + 1))) (lv' := [(4, .int (nI (k + 1))), (0, .ref mo), (1, .int a1), (2, .int a2), (3, .int a3)]) hx hb dX8_addSolo_71 hl (k := 4) rfl (g_inc k 1) (by decide) rfl (fun ls hl => ?_)
                    refine lv_goto (tgt := 37) hx hb dX8_addSolo_74 (by decide) ?_
                    exact ih_lp (k + 1) (by omega) ((fK_s (p := ovl S (tk a2) (tk a3)) (by omega) (ovl_2r c65)).trans hs) (by omega) H locs ls hz hP hS (lv_sub hl [1, 2, 3, 4, 0] rfl)
                  · refine lv_bipush (v := (-4)) hx hb dX8_addSolo_68 (by decide) ?_
                    exact g_iret (z := sz) hx hb hr hlk hz hP hL hS dX8_addSolo_70 (gxi_i (mP_n (by unfold o_addSolo; rw [if_pos (by first | exact c5 | exact nb c5 | exact Ne.symm c5 | exact fun q => q c5 | exact fun q => q c5.symm | omega), if_pos (by first | exact c13 | exact nb c13 | exact Ne.symm c13 | exact fun q => q c13 | exact fun q => q c13.symm | omega), if_pos (by first | exact c21 | exact nb c21 | exact Ne.symm c21 | exact fun q => q c21 | exact fun q => q c21.symm | omega), if_pos (by first | exact c28 | exact nb c28 | exact Ne.symm c28 | exact fun q => q c28 | exact fun q => q c28.symm | omega), if_pos (by rw [ovF, ← hs, fK_y (by omega) (ovl_3 c54 c65)]; rfl)]) ⟨_, hMo, hA⟩ rfl hag))
          exact lp _ 0 (by omega) rfl (Nat.lt_succ_self _) H locs ls hz hP hS (lv_sub hl [1, 2, 3, 4, 0] rfl)
        · refine lv_bipush (v := (-2)) hx hb dX8_addSolo_31 (by decide) ?_
          exact g_iret (z := sz) hx hb hr hlk hz hP hL hS dX8_addSolo_33 (gxi_i (mP_n (by unfold o_addSolo; rw [if_pos (by first | exact c5 | exact nb c5 | exact Ne.symm c5 | exact fun q => q c5 | exact fun q => q c5.symm | omega), if_pos (by first | exact c13 | exact nb c13 | exact Ne.symm c13 | exact fun q => q c13 | exact fun q => q c13.symm | omega), if_pos (by first | exact c21 | exact nb c21 | exact Ne.symm c21 | exact fun q => q c21 | exact fun q => q c21.symm | omega), if_neg (by first | exact c28 | exact nb c28 | exact Ne.symm c28 | exact fun q => q c28 | exact fun q => q c28.symm | omega)]) ⟨_, hMo, hA⟩ rfl hag))
      · have c21 : inN a3 (sB S) = false := by simpa using c21
        refine lv_iconst (v := (-1)) hx hb dX8_addSolo_24 (by decide) ?_
        exact g_iret (z := sz) hx hb hr hlk hz hP hL hS dX8_addSolo_25 (gxi_i (mP_n (by unfold o_addSolo; rw [if_pos (by first | exact c5 | exact nb c5 | exact Ne.symm c5 | exact fun q => q c5 | exact fun q => q c5.symm | omega), if_pos (by first | exact c13 | exact nb c13 | exact Ne.symm c13 | exact fun q => q c13 | exact fun q => q c13.symm | omega), if_neg (by first | exact c21 | exact nb c21 | exact Ne.symm c21 | exact fun q => q c21 | exact fun q => q c21.symm | omega)]) ⟨_, hMo, hA⟩ rfl hag))

theorem nX8_removeSolo_X8 : ∀ w ∈ wsX80, w ∈ wsX8_removeSolo := by decide +kernel
set_option maxHeartbeats 4000000 in
set_option maxRecDepth 100000 in
theorem c_X8_removeSolo (l : Launch) (mo : Nat) (S : sS) (tf : Nat → Int32) (tn P : Nat) (C : Nat → sS) (kp : Nat → Bool) (a1 : Int32) (σ : gS) (sz : Nat) (hW : Me σ mo S tf tn P C kp) (hok : okS S) (hokC : ∀ k : Nat, k < P → okS (C k)) : gM l yX8_removeSolo wsX8_removeSolo ({ frames := 1, cells := 0, slots := 0, locals := 22 } : Room) 0 0 [.ref mo, .int a1] σ sz (gxi (fun r τ n => mP mo σ S tf tn P C kp sz (o_removeSolo S a1) r τ n)) := by
  refine gM_of (cc := cX8_removeSolo) (maxL := 3) (ret := (some .int)) (by decide) rfl (Nat.le_of_ble_eq_true rfl) ?_
  intro D ka lo hL hlo p e s m below meth c hx hb hr hts hown hml hlk hnm hK H locs ls hz hP hS hl
  have hl : lv_has ls 3 [(0, .ref mo), (1, .int a1)] := hl
  have hown : s.vm.findClass RX8 = some m.cls := hown
  obtain ⟨A, hMo, hA⟩ := hW
  have hR := hA.2.2.1
  have hR0 := hR
  have hP0 := hA.1
  have htn0 := hA.2.1
  have hP5 : P ≤ 5 := hA.2.2.2.2.2.2.2.2
  have htn : tn ≤ 60 := hA.2.2.2.2.2.2.2.1
  obtain ⟨hB, hN, hKs, hRs⟩ := id hok
  have hag : gAs (gZo mo 16) σ σ := gAs.rf
  refine lv_iload_n hx hb dX8_removeSolo_0 rfl (lv_at hl 1 rfl) ?_
  refine lv_iconst (v := (nI 0)) hx hb dX8_removeSolo_1 (by decide) ?_
  refine lv_aload_n hx hb dX8_removeSolo_2 rfl (lv_at hl 0 rfl) ?_
  refine g_runV (As := []) (rest := [.int (nI 0), .int a1]) (own := RX8) (C := RX8) (T := TX8) (N := 20) 0 hx hb hml hown hts hK hz hP hL hS hlo hl.1 (c_X8_solos l mo A S  σ sz hMo hR) gX8_removeSolo_X8_solos rfl rfl rfl (by decide +kernel) ⟨Nat.le_of_ble_eq_true rfl, Nat.le_of_ble_eq_true rfl⟩ hMo.c0 rfl rfl rfl (Nat.le_of_ble_eq_true rfl) dX8_removeSolo_3 ⟨Nat.le_of_ble_eq_true rfl, Nat.le_of_ble_eq_true rfl⟩ (g_ki0 (fun H locs hz hP hL hS => ?_))
  refine lv_iconst (v := (nI 1)) hx hb dX8_removeSolo_6 (by decide) ?_
  refine lv_isub hx hb dX8_removeSolo_7 ?_
  refine g_runS (As := [.int a1, .int (nI 0), .int ((nI (sK S)) - (nI 1))]) (rest := []) (own := RX8) 3 hx hb hml hown hts hK hz hP hL hS hlo hl.1 (c_X8_in l a1 ((nI 0)) (((nI (sK S)) - (nI 1))) σ sz) gX8_removeSolo_X8_in rfl rfl rfl (by decide +kernel) ⟨Nat.le_of_ble_eq_true rfl, Nat.le_of_ble_eq_true rfl⟩ rfl rfl (Nat.le_of_ble_eq_true rfl) dX8_removeSolo_8 ⟨Nat.le_of_ble_eq_true rfl, Nat.le_of_ble_eq_true rfl⟩ (g_ki0 (fun H locs hz hP hL hS => ?_))
  refine g_top (y := (bI (inN a1 (sK S)))) (congrArg bI (inB_inN a1 (by omega))) ?_
  refine g_ifb_ne (tgt := 16) hx hb dX8_removeSolo_11 (by decide) (fun c11 => ?_) (fun c11 => ?_)
  · obtain ⟨ha1e, ha1l⟩ := tk_in c11 (by omega)
    refine lv_aload_n hx hb dX8_removeSolo_16 rfl (lv_at hl 0 rfl) ?_
    refine g_runV (As := []) (rest := []) (own := RX8) (C := RX8) (T := TX8) (N := 20) 0 hx hb hml hown hts hK hz hP hL hS hlo hl.1 (c_X8_begin l mo A σ sz hMo) gX8_removeSolo_X8_begin rfl rfl rfl (by decide +kernel) ⟨Nat.le_of_ble_eq_true rfl, Nat.le_of_ble_eq_true rfl⟩ hMo.c0 rfl rfl rfl (Nat.le_of_ble_eq_true rfl) dX8_removeSolo_17 ⟨Nat.le_of_ble_eq_true rfl, Nat.le_of_ble_eq_true rfl⟩ (g_kxv0 (fun τ_1 H locs z1 hz hp hP hL hS => ?_))
    obtain ⟨hz1, ⟨A_1, hm_1, hb_1, hr_1⟩, ha_1⟩ := hp
    have hz := hz.trans hz1
    have hMo := hm_1
    have hag := hag.tr ha_1 (fun q h => h)
    have hR : Rr S (A_1 1) := by rw [hr_1 1 (by decide)]; exact hR
    have hR0A := hR
    refine lv_aload_n hx hb dX8_removeSolo_20 rfl (lv_at hl 0 rfl) ?_
    refine g_get (C := RX8) (T := TX8) (N := 20) hx hb hts hown hK hP hMo.c0 nX8_removeSolo_X8 rfl 0 (by decide) (by decide +kernel) rfl (v := .ref (mo + 1)) rfl dX8_removeSolo_21 ?_
    refine lv_iconst (v := (nI 2)) hx hb dX8_removeSolo_24 (by decide) ?_
    refine lv_dup2_11 hx hb dX8_removeSolo_25 rfl rfl ?_
    refine g_iald hx hb hK hP hMo.c1 (i := nI 2) (vp_in_nI (by omega) (by omega)) dX8_removeSolo_26 ?_
    rw [nI_clamp (n := 2) (by omega)]
    refine g_top (y := (nI (sK S))) hR.k2 ?_
    refine lv_iconst (v := (nI 1)) hx hb dX8_removeSolo_27 (by decide) ?_
    refine lv_isub hx hb dX8_removeSolo_28 ?_
    refine g_top (pk_sub (by omega : 1 ≤ sK S)) ?_
    refine g_iast hx hb hK hP hL hS hMo.c1 (i := nI 2) (vp_in_nI (by omega) (by omega)) dX8_removeSolo_29 (fun H locs hq hP hL hS => ?_)
    rw [nI_clamp (n := 2) (by omega)] at hP hL
    have hz := hq.trans hz
    obtain ⟨σ2, e2⟩ : ∃ υ0 : gS, υ0 = gup τ_1 (mo + 1) (gI 292 (upd (A_1 1) 2 ((nI ((sK S) - 1))))) := ⟨_, rfl⟩
    have hP : gH D ka σ2 H := by rw [e2]; exact hP
    have hL : gL lo σ2 := by rw [e2]; exact hL
    have hMo : MoAt σ2 mo (sRow A_1 1 (upd (A_1 1) 2 ((nI ((sK S) - 1))))) := by rw [e2]; exact hMo.w1 (upd (A_1 1) 2 ((nI ((sK S) - 1))))
    have hag := hag.upe e2 (zo_k (by decide))
    obtain ⟨A3, hMo, hA3r, hA32, hA3o⟩ : ∃ A3 : sS, MoAt σ2 mo A3 ∧ (∀ i : Nat, i ≠ 1 → A3 i = A_1 i) ∧ A3 1 2 = nI (sK S - 1) ∧ (∀ j : Nat, j ≠ 2 → A3 1 j = A_1 1 j) := ⟨_, hMo, fun i hi => sRow_n hi, by rw [sRow_s, upd_s], fun j hj => by rw [sRow_s, upd_n hj]⟩
    refine lv_sipush (v := (nI 268)) hx hb dX8_removeSolo_30 (by decide) ?_
    refine lv_iconst (v := (nI 3)) hx hb dX8_removeSolo_33 (by decide) ?_
    refine lv_iload_n hx hb dX8_removeSolo_34 rfl (lv_at hl 1 rfl) ?_
    refine g_top (y := (nI (tk a1))) ha1e ?_
    refine lv_imul hx hb dX8_removeSolo_35 ?_
    refine g_top (pk_mul 3 (tk a1)) ?_
    refine lv_iadd hx hb dX8_removeSolo_36 ?_
    refine g_top (nI_add 268 (3 * (tk a1))) ?_
    refine lv_istore_n (lv' := [(2, .int (nI (268 + (3 * (tk a1))))), (0, .ref mo), (1, .int a1)]) hx hb dX8_removeSolo_37 rfl hl (by decide) rfl (fun ls hl => ?_)
    have lp : ∀ (fu_lp : Nat) (u : Nat), (u ≤ 3 * (sK S - 1 - tk a1)) → (3 * (sK S - 1 - tk a1) - u < fu_lp) → ∀ (υ : gS), (MoAt υ mo (sRow A3 1 (mvD (A3 1) (268 + 3 * tk a1) u))) → (gAs (gZo mo 16) σ υ) → gL lo υ → ∀ (H : Heap) (locs : List Loc) (ls : Array Slot), H.size = sz → gH D ka υ H → va_S (gA lo) s.heap H locs → lv_has ls 3 [(0, .ref mo), (1, .int a1), (2, .int (nI (268 + 3 * tk a1 + u)))] → W p l e ({ frames := 1, cells := 0, slots := 0, locals := 22 } : Room) s m ([.ref mo, .int a1] : List Value).toArray below meth c H locs (0) (0) (MQ below (gQ D ka lo (gxi (fun r τ n => mP mo σ S tf tn P C kp sz (o_removeSolo S a1) r τ n))) ([.ref mo, .int a1] : List Value).toArray s 0 0 (gA lo)) (F0 m 38 ls []) := by
      intro fu_lp
      induction fu_lp with
      | zero => intro u hu hm_lp; exact absurd hm_lp (Nat.not_lt_zero _)
      | succ fu_lp ih_lp =>
        intro u hu hm_lp υ hMo hag hL H locs ls hz hP hS hl
        refine lv_iload_n hx hb dX8_removeSolo_38 rfl (lv_at hl 2 rfl) ?_
        refine lv_sipush (v := (nI 268)) hx hb dX8_removeSolo_39 (by decide) ?_
        refine lv_iconst (v := (nI 3)) hx hb dX8_removeSolo_42 (by decide) ?_
        refine lv_aload_n hx hb dX8_removeSolo_43 rfl (lv_at hl 0 rfl) ?_
        refine g_runV (As := []) (rest := [.int (nI 3), .int (nI 268), .int (nI (268 + 3 * tk a1 + u))]) (own := RX8) (C := RX8) (T := TX8) (N := 20) 0 hx hb hml hown hts hK hz hP hL hS hlo hl.1 (c_X8_solos_r l mo (sRow A3 1 (mvD (A3 1) (268 + 3 * tk a1) u)) υ sz hMo) gX8_removeSolo_X8_solos rfl rfl rfl (by decide +kernel) ⟨Nat.le_of_ble_eq_true rfl, Nat.le_of_ble_eq_true rfl⟩ hMo.c0 rfl rfl rfl (Nat.le_of_ble_eq_true rfl) dX8_removeSolo_44 ⟨Nat.le_of_ble_eq_true rfl, Nat.le_of_ble_eq_true rfl⟩ (g_ki0 (fun H locs hz hP hL hS => ?_))
        refine g_top (y := (nI (sK S - 1))) (by rw [sRow_s]; simp only [mvD]; rw [if_neg (by omega)]; exact hA32) ?_
        refine lv_imul hx hb dX8_removeSolo_47 ?_
        refine g_top (pk_mul 3 (sK S - 1)) ?_
        refine lv_iadd hx hb dX8_removeSolo_48 ?_
        refine g_top (nI_add 268 (3 * (sK S - 1))) ?_
        refine g_icmp_ge (tgt := 72) (a := 268 + 3 * tk a1 + u) (b := 268 + (3 * (sK S - 1))) hx hb (by omega) (by omega) dX8_removeSolo_49 (by decide) (fun c49 => ?_) (fun c49 => ?_)
        · have hbx : ∀ j : Nat, j < 292 → A3 2 j = A 1 j := fun j hj => by rw [hA3r 2 (by decide)]; exact hb_1 j hj
          have hkx : ∀ i : Nat, 3 ≤ i → A3 i = A i := fun i hi => (hA3r i (by omega)).trans (hr_1 i (by omega))
          have h0x : A3 0 = A 0 := (hA3r 0 (by decide)).trans (hr_1 0 (by decide))
          have hP0 : tN A3 0 = P := by show (A3 0 0).toNatClampNeg = P; rw [h0x]; exact hP0
          refine lv_aload_n hx hb dX8_removeSolo_72 rfl (lv_at hl 0 rfl) ?_
          refine lv_aload_n hx hb dX8_removeSolo_73 rfl (lv_at hl 0 rfl) ?_
          refine g_runV (As := []) (rest := [.ref mo]) (own := RX8) (C := RX8) (T := TX8) (N := 20) 0 hx hb hml hown hts hK hz hP hL hS hlo hl.1 (c_X8_solos_r l mo (sRow A3 1 (mvD (A3 1) (268 + 3 * tk a1) u)) υ sz hMo) gX8_removeSolo_X8_solos rfl rfl rfl (by decide +kernel) ⟨Nat.le_of_ble_eq_true rfl, Nat.le_of_ble_eq_true rfl⟩ hMo.c0 rfl rfl rfl (Nat.le_of_ble_eq_true rfl) dX8_removeSolo_74 ⟨Nat.le_of_ble_eq_true rfl, Nat.le_of_ble_eq_true rfl⟩ (g_ki0 (fun H locs hz hP hL hS => ?_))
          refine g_top (y := (nI (sK (drpS S (tk a1))))) (by rw [sRow_s, drpS_K (by omega)]; simp only [mvD]; rw [if_neg (by omega)]; exact hA32) ?_
          refine g_runV (As := [.int (nI (sK (drpS S (tk a1))))]) (rest := []) (own := RX8) (C := RX8) (T := TX8) (N := 20) 1 hx hb hml hown hts hK hz hP hL hS hlo hl.1 (c_X8_done l mo (sRow A3 1 (mvD (A3 1) (268 + 3 * tk a1) u)) P ((nI (sK (drpS S (tk a1))))) υ sz hMo (by first | exact hP0 | (show tN A_1 0 = P; show (A_1 0 0).toNatClampNeg = P; rw [hr_1 0 (by decide)]; exact hP0)) hP5) gX8_removeSolo_X8_done rfl rfl rfl (by decide +kernel) ⟨Nat.le_of_ble_eq_true rfl, Nat.le_of_ble_eq_true rfl⟩ hMo.c0 rfl rfl rfl (Nat.le_of_ble_eq_true rfl) dX8_removeSolo_77 ⟨Nat.le_of_ble_eq_true rfl, Nat.le_of_ble_eq_true rfl⟩ (g_kxi0 (fun r_3 τ_3 H locs z1 hz hp hP hL hS => ?_))
          obtain ⟨hr9_3, hz1, ⟨D_3, hm_3, hd1_3, hd2_3, hd3_3, hd4_3⟩, ha_3⟩ := hp
          have hz := hz.trans hz1
          have hMo := hm_3
          have hag := hag.tr ha_3 (fun q h => h)
          subst hr9_3
          exact g_iret (z := sz) hx hb hr hlk hz hP hL hS dX8_removeSolo_80 (gxi_i (mP_s (by rw [o_removeSolo, if_pos c11]) ⟨_, hMo, MeP.done hA hok hokC (fun j hj => by first | exact hb_1 j hj | exact hbx j hj) (fun i h1 h2 => (sRow_n (by omega)).trans (hkx i h1)) (by first | exact hr_1 0 (by decide) | exact h0x) (by rw [sRow_s]; refine hR0A.cutSolo hok ha1l (by simp only [mvD]; rw [if_neg (by omega)]; exact hA32) (fun j h1 h2 => by simp only [mvD]; rw [if_neg (by omega)]; exact hA3o j h1) (fun k j h1 h2 => ?_); simp only [mvD]; by_cases c : tk a1 ≤ k; (rw [if_pos (by omega), if_pos c, hA3o _ (by omega), show 268 + 3 * k + j + 3 = 268 + 3 * (k + 1) + j by omega]; exact hR.ks (by omega) h2); (rw [if_neg (by omega), if_neg c, hA3o _ (by omega)]; exact hR.ks (by omega) h2)) hd1_3 hd2_3 hd3_3 hd4_3⟩ rfl hag))
        · refine lv_aload_n hx hb dX8_removeSolo_52 rfl (lv_at hl 0 rfl) ?_
          refine g_get (C := RX8) (T := TX8) (N := 20) hx hb hts hown hK hP hMo.c0 nX8_removeSolo_X8 rfl 0 (by decide) (by decide +kernel) rfl (v := .ref (mo + 1)) rfl dX8_removeSolo_53 ?_
          refine lv_iload_n hx hb dX8_removeSolo_56 rfl (lv_at hl 2 rfl) ?_
          refine lv_aload_n hx hb dX8_removeSolo_57 rfl (lv_at hl 0 rfl) ?_
          refine g_get (C := RX8) (T := TX8) (N := 20) hx hb hts hown hK hP hMo.c0 nX8_removeSolo_X8 rfl 0 (by decide) (by decide +kernel) rfl (v := .ref (mo + 1)) rfl dX8_removeSolo_58 ?_
          refine lv_iload_n hx hb dX8_removeSolo_61 rfl (lv_at hl 2 rfl) ?_
          refine lv_iconst (v := (nI 3)) hx hb dX8_removeSolo_62 (by decide) ?_
          refine lv_iadd hx hb dX8_removeSolo_63 ?_
          refine g_top (nI_add (268 + 3 * tk a1 + u) 3) ?_
          refine g_iald hx hb hK hP hMo.c1 (i := nI ((268 + 3 * tk a1 + u) + 3)) (vp_in_nI (by omega) (by omega)) dX8_removeSolo_64 ?_
          rw [nI_clamp (n := (268 + 3 * tk a1 + u) + 3) (by omega)]
          refine g_iast hx hb hK hP hL hS hMo.c1 (i := nI (268 + 3 * tk a1 + u)) (vp_in_nI (by omega) (by omega)) dX8_removeSolo_65 (fun H locs hq hP hL hS => ?_)
          rw [nI_clamp (n := 268 + 3 * tk a1 + u) (by omega)] at hP hL
          have hz := hq.trans hz
          obtain ⟨σ4, e4⟩ : ∃ υ0 : gS, υ0 = gup υ (mo + 1) (gI 292 (upd ((sRow A3 1 (mvD (A3 1) (268 + 3 * tk a1) u)) 1) (268 + 3 * tk a1 + u) ((((sRow A3 1 (mvD (A3 1) (268 + 3 * tk a1) u)) 1) ((268 + 3 * tk a1 + u) + 3))))) := ⟨_, rfl⟩
          have hP : gH D ka σ4 H := by rw [e4]; exact hP
          have hL : gL lo σ4 := by rw [e4]; exact hL
          have hMo : MoAt σ4 mo (sRow (sRow A3 1 (mvD (A3 1) (268 + 3 * tk a1) u)) 1 (upd ((sRow A3 1 (mvD (A3 1) (268 + 3 * tk a1) u)) 1) (268 + 3 * tk a1 + u) ((((sRow A3 1 (mvD (A3 1) (268 + 3 * tk a1) u)) 1) ((268 + 3 * tk a1 + u) + 3))))) := by rw [e4]; exact hMo.w1 (upd ((sRow A3 1 (mvD (A3 1) (268 + 3 * tk a1) u)) 1) (268 + 3 * tk a1 + u) ((((sRow A3 1 (mvD (A3 1) (268 + 3 * tk a1) u)) 1) ((268 + 3 * tk a1 + u) + 3))))
          have hag := hag.upe e4 (zo_k (by decide))
          refine lv_iinc (v := (nI (268 + 3 * tk a1 + u + 1))) (lv' := [(2, .int (nI (268 + 3 * tk a1 + u + 1))), (0, .ref mo), (1, .int a1)]) hx hb dX8_removeSolo_66 hl (k := 2) rfl (g_inc (268 + 3 * tk a1 + u) 1) (by decide) rfl (fun ls hl => ?_)
          refine lv_goto (tgt := 38) hx hb dX8_removeSolo_69 (by decide) ?_
          exact ih_lp (u + 1) (by omega) (by omega) σ4 (by rw [← mvD_s]; exact hMo) hag hL H locs ls hz hP hS (lv_sub hl [1, 2, 0] rfl)
    exact lp _ 0 (by omega) (Nat.lt_succ_self _) σ2 (by rw [mvD_0]; exact hMo) hag hL H locs ls hz hP hS (lv_sub hl [1, 2, 0] rfl)
  · refine lv_iconst (v := (-1)) hx hb dX8_removeSolo_14 (by decide) ?_
    exact g_iret (z := sz) hx hb hr hlk hz hP hL hS dX8_removeSolo_15 (gxi_i (mP_n (by rw [o_removeSolo, if_neg (nb c11)]) ⟨_, hMo, hA⟩ rfl hag))
