/-! the reference: the search for faults -/
theorem nX8_findFaults_X8 : ∀ w ∈ wsX80, w ∈ wsX8_findFaults := by decide +kernel
set_option maxHeartbeats 4000000 in
set_option maxRecDepth 100000 in
theorem c_X8_findFaults (l : Launch) (mo : Nat) (A S : sS) (σ : gS) (sz : Nat) (hMo : MoAt σ mo A) (hR : Rr S (A 1)) (hN : sN S ≤ 12) (hB : sB S ≤ 96) (hKs : sK S ≤ 8) : gM l yX8_findFaults wsX8_findFaults ({ frames := 5, cells := 0, slots := 0, locals := 113 } : Room) 0 0 [.ref mo] σ sz (gxv (fun τ n => n = sz ∧ (∃ A2 : sS, MoAt τ mo A2 ∧ Fx S A A2 (sB S) 0 0) ∧ gAs (gZo mo 16) σ τ)) := by
  refine gM_of (cc := cX8_findFaults) (maxL := 4) (ret := none) (by decide) rfl (Nat.le_of_ble_eq_true rfl) ?_
  intro D ka lo hL hlo p e s m below meth c hx hb hr hts hown hml hlk hnm hK H locs ls hz hP hS hl
  have hl : lv_has ls 4 [(0, .ref mo)] := hl
  have hown : s.vm.findClass RX8 = some m.cls := hown
  have hag : gAs (gZo mo 16) σ σ := gAs.rf
  have hR0 := hR
  refine lv_aload_n hx hb dX8_findFaults_0 rfl (lv_at hl 0 rfl) ?_
  refine g_runV (As := []) (rest := []) (own := RX8) (C := RX8) (T := TX8) (N := 20) 0 hx hb hml hown hts hK hz hP hL hS hlo hl.1 (c_X8_liveAll l mo A S σ sz hMo hR (by omega) (by omega) (by omega)) gX8_findFaults_X8_liveAll rfl rfl rfl (by decide +kernel) ⟨Nat.le_of_ble_eq_true rfl, Nat.le_of_ble_eq_true rfl⟩ hMo.c0 rfl rfl rfl (Nat.le_of_ble_eq_true rfl) dX8_findFaults_1 ⟨Nat.le_of_ble_eq_true rfl, Nat.le_of_ble_eq_true rfl⟩ (g_kxv0 (fun τ_1 H locs z1 hz hp hP hL hS => ?_))
  obtain ⟨hz1, ⟨B_1, hm_1, hr_1, hv_1⟩, ha_1⟩ := hp
  have hz := hz.trans hz1
  have hMo := hm_1
  have hag := hag.tr ha_1 (fun q h => h)
  have hR : Rr S (B_1 1) := by rw [hr_1 1 (by decide) (by decide)]; exact hR
  have hsc : ∀ j : Nat, j ≤ 6 → j ≠ 2 → B_1 j = A j := fun j h1 h2 => hr_1 j (by omega) (by omega)
  have hdo : ∀ i b : Nat, i < sN S → b < sB S → B_1 10 (96 * i + b) = nI (dosQ S i b) := fun i b h1 h2 => (hv_1 i b h2 (Or.inl h1)).1
  have hle : ∀ i b : Nat, i < sN S → b < sB S → B_1 11 (96 * i + b) = leS S i b := fun i b h1 h2 => (hv_1 i b h2 (Or.inl h1)).2
  refine lv_aload_n hx hb dX8_findFaults_4 rfl (lv_at hl 0 rfl) ?_
  refine lv_iconst (v := (nI 0)) hx hb dX8_findFaults_5 (by decide) ?_
  refine g_put (C := RX8) (T := TX8) (N := 20) hx hb hts hown hK hP hL hS hMo.c0 nX8_findFaults_X8 tyX8 tyX8_ok nmX8 rfl 16 (by decide) (by decide +kernel) rfl rfl (v := .int (nI 0)) rfl rfl (Nat.le_of_ble_eq_true rfl) dX8_findFaults_6 (fun H locs hq hP hL hS => ?_)
  have hz := hq.trans hz
  obtain ⟨σ2, e2⟩ : ∃ υ0 : gS, υ0 = gup τ_1 mo (gO 8 [.ref (mo + 1), .ref (mo + 2), .ref (mo + 3), .int (nI (tN B_1 0)), .ref (mo + 4), .ref (mo + 5), .int (nI (tN B_1 1)), .ref (mo + 6), .int (nI (tN B_1 2)), .ref (mo + 7), .ref (mo + 8), .ref (mo + 9), .int (nI (tN B_1 3)), .ref (mo + 10), .ref (mo + 11), .ref (mo + 12), .int (nI 0), .ref (mo + 13), .ref (mo + 14), .ref (mo + 15)]) := ⟨_, rfl⟩
  have hP : gH D ka σ2 H := by rw [e2]; exact hP
  have hL : gL lo σ2 := by rw [e2]; exact hL
  have hMo : MoAt σ2 mo (sPut B_1 0 4 (nI 0)) := by rw [e2]; exact hMo.p16 0 (by omega)
  have hag := hag.upe e2 (zo_0 (by decide))
  have hFx0 : Fx S A (sPut B_1 0 4 (nI 0)) 0 0 0 := ⟨fun j h1 h2 h3 => (sPut_n (by omega)).trans (hr_1 j (by omega) (by omega)), fun k2 hk2 => (tN_n (by omega)).trans (by show (B_1 0 k2).toNatClampNeg = _; rw [hr_1 0 (by decide) (by decide)]), fun i b h1 h2 => hdo i b h1 h2, FtD.z (tN_s (by decide))⟩
  refine lv_iconst (v := (nI 0)) hx hb dX8_findFaults_9 (by decide) ?_
  refine lv_istore_n (lv' := [(1, .int (nI 0)), (0, .ref mo)]) hx hb dX8_findFaults_10 rfl hl (by decide) rfl (fun ls hl => ?_)
  have lp : ∀ (fu_lp : Nat) (b : Nat), (b ≤ sB S) → (sB S - b < fu_lp) → ∀ (υ : gS), (∃ A2 : sS, MoAt υ mo A2 ∧ Fx S A A2 b 0 0) → (gAs (gZo mo 16) σ υ) → gL lo υ → ∀ (H : Heap) (locs : List Loc) (ls : Array Slot), H.size = sz → gH D ka υ H → va_S (gA lo) s.heap H locs → lv_has ls 4 [(0, .ref mo), (1, .int (nI b))] → W p l e ({ frames := 5, cells := 0, slots := 0, locals := 113 } : Room) s m ([.ref mo] : List Value).toArray below meth c H locs (0) (0) (MQ below (gQ D ka lo (gxv (fun τ n => n = sz ∧ (∃ A2 : sS, MoAt τ mo A2 ∧ Fx S A A2 (sB S) 0 0) ∧ gAs (gZo mo 16) σ τ))) ([.ref mo] : List Value).toArray s 0 0 (gA lo)) (F0 m 11 ls []) := by
    intro fu_lp
    induction fu_lp with
    | zero => intro b hb9 hm_lp; exact absurd hm_lp (Nat.not_lt_zero _)
    | succ fu_lp ih_lp =>
      intro b hb9 hm_lp υ hEx hag hL H locs ls hz hP hS hl
      obtain ⟨A3, hMo, hFx⟩ := hEx
      have hR : Rr S (A3 1) := by rw [hFx.1 1 (by decide) (by decide) (by decide)]; exact hR0
      have hdo := hFx.2.2.1
      refine lv_iload_n hx hb dX8_findFaults_11 rfl (lv_at hl 1 rfl) ?_
      refine lv_aload_n hx hb dX8_findFaults_12 rfl (lv_at hl 0 rfl) ?_
      refine g_runV (As := []) (rest := [.int (nI b)]) (own := RX8) (C := RX8) (T := TX8) (N := 20) 0 hx hb hml hown hts hK hz hP hL hS hlo hl.1 (c_X8_beats l mo A3 S  υ sz hMo hR) gX8_findFaults_X8_beats rfl rfl rfl (by decide +kernel) ⟨Nat.le_of_ble_eq_true rfl, Nat.le_of_ble_eq_true rfl⟩ hMo.c0 rfl rfl rfl (Nat.le_of_ble_eq_true rfl) dX8_findFaults_13 ⟨Nat.le_of_ble_eq_true rfl, Nat.le_of_ble_eq_true rfl⟩ (g_ki0 (fun H locs hz hP hL hS => ?_))
      refine g_icmp_ge (tgt := 114) (a := b) (b := sB S) hx hb (by omega) (by omega) dX8_findFaults_16 (by decide) (fun c16 => ?_) (fun c16 => ?_)
      · exact g_vret (z := sz) hx hb hr hlk hz hP hL hS dX8_findFaults_114 (gxv_i ⟨rfl, ⟨_, hMo, (by rw [show sB S = b by omega]; exact hFx)⟩, hag⟩)
      · refine lv_aload_n hx hb dX8_findFaults_19 rfl (lv_at hl 0 rfl) ?_
        refine lv_iload_n hx hb dX8_findFaults_20 rfl (lv_at hl 1 rfl) ?_
        refine g_runV (As := [.int (nI b)]) (rest := []) (own := RX8) (C := RX8) (T := TX8) (N := 20) 1 hx hb hml hown hts hK hz hP hL hS hlo hl.1 (c_X8_isRest l mo A3 S b υ sz hMo hR (by omega) (by omega)) gX8_findFaults_X8_isRest rfl rfl rfl (by decide +kernel) ⟨Nat.le_of_ble_eq_true rfl, Nat.le_of_ble_eq_true rfl⟩ hMo.c0 rfl rfl rfl (Nat.le_of_ble_eq_true rfl) dX8_findFaults_21 ⟨Nat.le_of_ble_eq_true rfl, Nat.le_of_ble_eq_true rfl⟩ (g_ki0 (fun H locs hz hP hL hS => ?_))
        refine g_ifb_ne (tgt := 44) hx hb dX8_findFaults_24 (by decide) (fun c24 => ?_) (fun c24 => ?_)
        · have hFx : Fx S A (A3) b 1 0 := (hFx.fs 12 (by decide) (fun j h1 h2 => by rw [gF_0, c24]; simp)).nq
          have hR : Rr S ((A3) 1) := hR
          refine lv_iconst (v := (nI 1)) hx hb dX8_findFaults_44 (by decide) ?_
          refine lv_istore_n (lv' := [(2, .int (nI 1)), (0, .ref mo), (1, .int (nI b))]) hx hb dX8_findFaults_45 rfl hl (by decide) rfl (fun ls hl => ?_)
          have lq : ∀ (fu_lq : Nat) (q1 : Nat), (1 ≤ q1) → (q1 ≤ 4) → (4 - q1 < fu_lq) → ∀ (υ : gS), (∃ A2 : sS, MoAt υ mo A2 ∧ Fx S A A2 b q1 0) → (gAs (gZo mo 16) σ υ) → gL lo υ → ∀ (H : Heap) (locs : List Loc) (ls : Array Slot), H.size = sz → gH D ka υ H → va_S (gA lo) s.heap H locs → lv_has ls 4 [(0, .ref mo), (1, .int (nI b)), (2, .int (nI q1))] → W p l e ({ frames := 5, cells := 0, slots := 0, locals := 113 } : Room) s m ([.ref mo] : List Value).toArray below meth c H locs (0) (0) (MQ below (gQ D ka lo (gxv (fun τ n => n = sz ∧ (∃ A2 : sS, MoAt τ mo A2 ∧ Fx S A A2 (sB S) 0 0) ∧ gAs (gZo mo 16) σ τ))) ([.ref mo] : List Value).toArray s 0 0 (gA lo)) (F0 m 46 ls []) := by
            intro fu_lq
            induction fu_lq with
            | zero => intro q1 hq1 hq2 hm_lq; exact absurd hm_lq (Nat.not_lt_zero _)
            | succ fu_lq ih_lq =>
              intro q1 hq1 hq2 hm_lq υ hEx hag hL H locs ls hz hP hS hl
              obtain ⟨A4, hMo, hFx⟩ := hEx
              have hR : Rr S (A4 1) := by rw [hFx.1 1 (by decide) (by decide) (by decide)]; exact hR0
              have hdo := hFx.2.2.1
              refine lv_iload_n hx hb dX8_findFaults_46 rfl (lv_at hl 2 rfl) ?_
              refine lv_iconst (v := (nI 4)) hx hb dX8_findFaults_47 (by decide) ?_
              refine g_icmp_ge (tgt := 108) (a := q1) (b := 4) hx hb (by omega) (by omega) dX8_findFaults_48 (by decide) (fun c48 => ?_) (fun c48 => ?_)
              · refine lv_iinc (v := (nI (b + 1))) (lv' := [(1, .int (nI (b + 1))), (0, .ref mo), (2, .int (nI q1))]) hx hb dX8_findFaults_108 hl (k := 1) rfl (g_inc b 1) (by decide) rfl (fun ls hl => ?_)
                refine lv_goto (tgt := 11) hx hb dX8_findFaults_111 (by decide) ?_
                exact ih_lp (b + 1) (by omega) (by omega) υ ⟨_, hMo, (by rw [show q1 = 4 by omega] at hFx; exact hFx.nb)⟩ hag hL H locs ls hz hP hS (lv_sub hl [1, 0] rfl)
              · refine lv_iconst (v := (nI 0)) hx hb dX8_findFaults_51 (by decide) ?_
                refine lv_istore_n (lv' := [(3, .int (nI 0)), (0, .ref mo), (1, .int (nI b)), (2, .int (nI q1))]) hx hb dX8_findFaults_52 rfl hl (by decide) rfl (fun ls hl => ?_)
                have lr : ∀ (fu_lr : Nat) (i : Nat), (i ≤ sN S) → (sN S - i < fu_lr) → ∀ (υ : gS), (∃ A2 : sS, MoAt υ mo A2 ∧ Fx S A A2 b q1 i) → (gAs (gZo mo 16) σ υ) → gL lo υ → ∀ (H : Heap) (locs : List Loc) (ls : Array Slot), H.size = sz → gH D ka υ H → va_S (gA lo) s.heap H locs → lv_has ls 4 [(0, .ref mo), (1, .int (nI b)), (2, .int (nI q1)), (3, .int (nI i))] → W p l e ({ frames := 5, cells := 0, slots := 0, locals := 113 } : Room) s m ([.ref mo] : List Value).toArray below meth c H locs (0) (0) (MQ below (gQ D ka lo (gxv (fun τ n => n = sz ∧ (∃ A2 : sS, MoAt τ mo A2 ∧ Fx S A A2 (sB S) 0 0) ∧ gAs (gZo mo 16) σ τ))) ([.ref mo] : List Value).toArray s 0 0 (gA lo)) (F0 m 53 ls []) := by
                  intro fu_lr
                  induction fu_lr with
                  | zero => intro i hi9 hm_lr; exact absurd hm_lr (Nat.not_lt_zero _)
                  | succ fu_lr ih_lr =>
                    intro i hi9 hm_lr υ hEx hag hL H locs ls hz hP hS hl
                    obtain ⟨A5, hMo, hFx⟩ := hEx
                    have hR : Rr S (A5 1) := by rw [hFx.1 1 (by decide) (by decide) (by decide)]; exact hR0
                    have hdo := hFx.2.2.1
                    refine lv_iload_n hx hb dX8_findFaults_53 rfl (lv_at hl 3 rfl) ?_
                    refine lv_aload_n hx hb dX8_findFaults_54 rfl (lv_at hl 0 rfl) ?_
                    refine g_runV (As := []) (rest := [.int (nI i)]) (own := RX8) (C := RX8) (T := TX8) (N := 20) 0 hx hb hml hown hts hK hz hP hL hS hlo hl.1 (c_X8_singers l mo A5 S  υ sz hMo hR) gX8_findFaults_X8_singers rfl rfl rfl (by decide +kernel) ⟨Nat.le_of_ble_eq_true rfl, Nat.le_of_ble_eq_true rfl⟩ hMo.c0 rfl rfl rfl (Nat.le_of_ble_eq_true rfl) dX8_findFaults_55 ⟨Nat.le_of_ble_eq_true rfl, Nat.le_of_ble_eq_true rfl⟩ (g_ki0 (fun H locs hz hP hL hS => ?_))
                    refine g_icmp_ge (tgt := 102) (a := i) (b := sN S) hx hb (by omega) (by omega) dX8_findFaults_58 (by decide) (fun c58 => ?_) (fun c58 => ?_)
                    · refine lv_iinc (v := (nI (q1 + 1))) (lv' := [(2, .int (nI (q1 + 1))), (0, .ref mo), (1, .int (nI b)), (3, .int (nI i))]) hx hb dX8_findFaults_102 hl (k := 2) rfl (g_inc q1 1) (by decide) rfl (fun ls hl => ?_)
                      refine lv_goto (tgt := 46) hx hb dX8_findFaults_105 (by decide) ?_
                      exact ih_lq (q1 + 1) (by omega) (by omega) (by omega) υ ⟨_, hMo, (hFx.fs 12 (by omega) (fun j h1 h2 => gF_hi (by omega) (by omega))).nq⟩ hag hL H locs ls hz hP hS (lv_sub hl [1, 2, 0] rfl)
                    · refine lv_iload_n hx hb dX8_findFaults_61 rfl (lv_at hl 2 rfl) ?_
                      refine lv_iconst (v := (nI 1)) hx hb dX8_findFaults_62 (by decide) ?_
                      refine g_icmp_ne (tgt := 79) (a := q1) (b := 1) hx hb (by omega) (by omega) dX8_findFaults_63 (by decide) (fun c63 => ?_) (fun c63 => ?_)
                      · refine lv_aload_n hx hb dX8_findFaults_79 rfl (lv_at hl 0 rfl) ?_
                        refine lv_iload_n hx hb dX8_findFaults_80 rfl (lv_at hl 3 rfl) ?_
                        refine lv_iload_n hx hb dX8_findFaults_81 rfl (lv_at hl 1 rfl) ?_
                        refine g_runV (As := [.int (nI i), .int (nI b)]) (rest := []) (own := RX8) (C := RX8) (T := TX8) (N := 20) 2 hx hb hml hown hts hK hz hP hL hS hlo hl.1 (c_X8_sortOfMark l mo A5 S i b υ sz hMo hR (by omega) (by omega) (by omega) (by omega) (by omega)) gX8_findFaults_X8_sortOfMark rfl rfl rfl (by decide +kernel) ⟨Nat.le_of_ble_eq_true rfl, Nat.le_of_ble_eq_true rfl⟩ hMo.c0 rfl rfl rfl (Nat.le_of_ble_eq_true rfl) dX8_findFaults_82 ⟨Nat.le_of_ble_eq_true rfl, Nat.le_of_ble_eq_true rfl⟩ (g_ki0 (fun H locs hz hP hL hS => ?_))
                        refine lv_iload_n hx hb dX8_findFaults_85 rfl (lv_at hl 2 rfl) ?_
                        refine lv_icmp_ne (tgt := 96) hx hb dX8_findFaults_86 (by decide) (fun c86 => ?_) (fun c86 => ?_)
                        · refine lv_iinc (v := (nI (i + 1))) (lv' := [(3, .int (nI (i + 1))), (0, .ref mo), (1, .int (nI b)), (2, .int (nI q1))]) hx hb dX8_findFaults_96 hl (k := 3) rfl (g_inc i 1) (by decide) rfl (fun ls hl => ?_)
                          refine lv_goto (tgt := 53) hx hb dX8_findFaults_99 (by decide) ?_
                          exact ih_lr (i + 1) (by omega) (by omega) υ ⟨_, hMo, (hFx.f (Bool.not_eq_true _ |>.mp (fun q9 => c86 ((sk_q (fun i hi => hdo i b hi (by omega)) (by omega) (by omega) (by omega)).mpr q9))))⟩ hag hL H locs ls hz hP hS (lv_sub hl [1, 2, 3, 0] rfl)
                        · refine lv_aload_n hx hb dX8_findFaults_89 rfl (lv_at hl 0 rfl) ?_
                          refine lv_iload_n hx hb dX8_findFaults_90 rfl (lv_at hl 2 rfl) ?_
                          refine lv_iload_n hx hb dX8_findFaults_91 rfl (lv_at hl 1 rfl) ?_
                          refine lv_iload_n hx hb dX8_findFaults_92 rfl (lv_at hl 3 rfl) ?_
                          have hg : gF S b q1 i = true := (sk_q (fun i hi => hdo i b hi (by omega)) (by omega) (by omega) (by omega)).mp c86
                          have hFl := poG_m hg (by omega) (by omega) (by omega)
                          refine g_runV (As := [.int (nI q1), .int (nI b), .int (nI i)]) (rest := []) (own := RX8) (C := RX8) (T := TX8) (N := 20) 3 hx hb hml hown hts hK hz hP hL hS hlo hl.1 (c_X8_addFault l mo A5 (poG (gF S) b q1 i) ((nI q1)) ((nI b)) ((nI i)) υ sz hMo hFx.2.2.2.1 (by omega)) gX8_findFaults_X8_addFault rfl rfl rfl (by decide +kernel) ⟨Nat.le_of_ble_eq_true rfl, Nat.le_of_ble_eq_true rfl⟩ hMo.c0 rfl rfl rfl (Nat.le_of_ble_eq_true rfl) dX8_findFaults_93 ⟨Nat.le_of_ble_eq_true rfl, Nat.le_of_ble_eq_true rfl⟩ (g_kxv0 (fun τ_6 H locs z1 hz hp hP hL hS => ?_))
                          obtain ⟨hz1, hm_6, ha_6⟩ := hp
                          have hz := hz.trans hz1
                          have hMo := hm_6
                          have hag := hag.tr ha_6 (fun q h => h)
                          refine lv_iinc (v := (nI (i + 1))) (lv' := [(3, .int (nI (i + 1))), (0, .ref mo), (1, .int (nI b)), (2, .int (nI q1))]) hx hb dX8_findFaults_96 hl (k := 3) rfl (g_inc i 1) (by decide) rfl (fun ls hl => ?_)
                          refine lv_goto (tgt := 53) hx hb dX8_findFaults_99 (by decide) ?_
                          exact ih_lr (i + 1) (by omega) (by omega) τ_6 ⟨_, hMo, (hFx.t hg (by omega) (by omega) (by omega) (by rw [if_neg (by omega)]))⟩ hag hL H locs ls hz hP hS (lv_sub hl [1, 2, 3, 0] rfl)
                      · refine lv_aload_n hx hb dX8_findFaults_66 rfl (lv_at hl 0 rfl) ?_
                        refine lv_iload_n hx hb dX8_findFaults_67 rfl (lv_at hl 3 rfl) ?_
                        refine lv_iload_n hx hb dX8_findFaults_68 rfl (lv_at hl 1 rfl) ?_
                        refine g_runV (As := [.int (nI i), .int (nI b)]) (rest := []) (own := RX8) (C := RX8) (T := TX8) (N := 20) 2 hx hb hml hown hts hK hz hP hL hS hlo hl.1 (c_X8_doesAt l mo A5 S i b υ sz hMo hR (by omega) (by omega) (by omega) (by omega)) gX8_findFaults_X8_doesAt rfl rfl rfl (by decide +kernel) ⟨Nat.le_of_ble_eq_true rfl, Nat.le_of_ble_eq_true rfl⟩ hMo.c0 rfl rfl rfl (Nat.le_of_ble_eq_true rfl) dX8_findFaults_69 ⟨Nat.le_of_ble_eq_true rfl, Nat.le_of_ble_eq_true rfl⟩ (g_ki0 (fun H locs hz hP hL hS => ?_))
                        refine lv_iconst (v := (nI 2)) hx hb dX8_findFaults_72 (by decide) ?_
                        refine lv_icmp_ne (tgt := 96) hx hb dX8_findFaults_73 (by decide) (fun c73 => ?_) (fun c73 => ?_)
                        · refine lv_iinc (v := (nI (i + 1))) (lv' := [(3, .int (nI (i + 1))), (0, .ref mo), (1, .int (nI b)), (2, .int (nI q1))]) hx hb dX8_findFaults_96 hl (k := 3) rfl (g_inc i 1) (by decide) rfl (fun ls hl => ?_)
                          refine lv_goto (tgt := 53) hx hb dX8_findFaults_99 (by decide) ?_
                          exact ih_lr (i + 1) (by omega) (by omega) υ ⟨_, hMo, (hFx.f (by rw [show q1 = 1 by omega, gF_1, decide_eq_false (p := dosQ S i b = 2) (fun q9 => c73 ((hdo i b (by omega) (by omega)).trans (by rw [q9]))), Bool.and_false]))⟩ hag hL H locs ls hz hP hS (lv_sub hl [1, 2, 3, 0] rfl)
                        · refine lv_goto (tgt := 89) hx hb dX8_findFaults_76 (by decide) ?_
                          refine lv_aload_n hx hb dX8_findFaults_89 rfl (lv_at hl 0 rfl) ?_
                          refine lv_iload_n hx hb dX8_findFaults_90 rfl (lv_at hl 2 rfl) ?_
                          refine lv_iload_n hx hb dX8_findFaults_91 rfl (lv_at hl 1 rfl) ?_
                          refine lv_iload_n hx hb dX8_findFaults_92 rfl (lv_at hl 3 rfl) ?_
                          have hg : gF S b q1 i = true := by rw [show q1 = 1 by omega, gF_1, decide_eq_true (p := i < sN S) (by omega), decide_eq_true (p := dosQ S i b = 2) ((nIq (dosF_lt _ _ _ _) (by decide)).mp ((hdo i b (by omega) (by omega)).symm.trans c73))]; rfl
                          have hFl := poG_m hg (by omega) (by omega) (by omega)
                          refine g_runV (As := [.int (nI q1), .int (nI b), .int (nI i)]) (rest := []) (own := RX8) (C := RX8) (T := TX8) (N := 20) 3 hx hb hml hown hts hK hz hP hL hS hlo hl.1 (c_X8_addFault l mo A5 (poG (gF S) b q1 i) ((nI q1)) ((nI b)) ((nI i)) υ sz hMo hFx.2.2.2.1 (by omega)) gX8_findFaults_X8_addFault rfl rfl rfl (by decide +kernel) ⟨Nat.le_of_ble_eq_true rfl, Nat.le_of_ble_eq_true rfl⟩ hMo.c0 rfl rfl rfl (Nat.le_of_ble_eq_true rfl) dX8_findFaults_93 ⟨Nat.le_of_ble_eq_true rfl, Nat.le_of_ble_eq_true rfl⟩ (g_kxv0 (fun τ_7 H locs z1 hz hp hP hL hS => ?_))
                          obtain ⟨hz1, hm_7, ha_7⟩ := hp
                          have hz := hz.trans hz1
                          have hMo := hm_7
                          have hag := hag.tr ha_7 (fun q h => h)
                          refine lv_iinc (v := (nI (i + 1))) (lv' := [(3, .int (nI (i + 1))), (0, .ref mo), (1, .int (nI b)), (2, .int (nI q1))]) hx hb dX8_findFaults_96 hl (k := 3) rfl (g_inc i 1) (by decide) rfl (fun ls hl => ?_)
                          refine lv_goto (tgt := 53) hx hb dX8_findFaults_99 (by decide) ?_
                          exact ih_lr (i + 1) (by omega) (by omega) τ_7 ⟨_, hMo, (hFx.t hg (by omega) (by omega) (by omega) (by rw [if_neg (by omega)]))⟩ hag hL H locs ls hz hP hS (lv_sub hl [1, 2, 3, 0] rfl)
                exact lr _ 0 (by omega) (Nat.lt_succ_self _) υ ⟨_, hMo, hFx⟩ hag hL H locs ls hz hP hS (lv_sub hl [1, 2, 3, 0] rfl)
          exact lq _ 1 (by omega) (by omega) (Nat.lt_succ_self _) υ ⟨_, hMo, hFx⟩ hag hL H locs ls hz hP hS (lv_sub hl [1, 2, 0] rfl)
        · refine lv_aload_n hx hb dX8_findFaults_27 rfl (lv_at hl 0 rfl) ?_
          refine lv_iload_n hx hb dX8_findFaults_28 rfl (lv_at hl 1 rfl) ?_
          refine lv_iconst (v := (nI 0)) hx hb dX8_findFaults_29 (by decide) ?_
          refine g_runV (As := [.int (nI b), .int (nI 0)]) (rest := []) (own := RX8) (C := RX8) (T := TX8) (N := 20) 2 hx hb hml hown hts hK hz hP hL hS hlo hl.1 (c_X8_many l mo A3 S b 0 υ sz hMo hR (by omega) (by omega) (by omega)) gX8_findFaults_X8_many rfl rfl rfl (by decide +kernel) ⟨Nat.le_of_ble_eq_true rfl, Nat.le_of_ble_eq_true rfl⟩ hMo.c0 rfl rfl rfl (Nat.le_of_ble_eq_true rfl) dX8_findFaults_30 ⟨Nat.le_of_ble_eq_true rfl, Nat.le_of_ble_eq_true rfl⟩ (g_ki0 (fun H locs hz hP hL hS => ?_))
          have hcl := cntF_le (fun i => decide (A3 10 (96 * i + b) = nI 0)) (sN S)
          have hmy := mny (S := S) (A := A3) (b := b) (q := 0) (n := sN S) (fun i hi => hdo i b hi (by omega)) (by decide)
          refine g_if_ne (tgt := 44) hx hb (by omega) dX8_findFaults_33 (by decide) (fun c33 => ?_) (fun c33 => ?_)
          · have hFx : Fx S A (A3) b 1 0 := (hFx.fs 12 (by decide) (fun j h1 h2 => by rw [gF_0, decide_eq_false (p := cntF (fun i => decide (dosQ S i b = 0)) (sN S) = 0) (by rw [← hmy]; exact Nat.ne_of_gt c33)]; simp)).nq
            have hR : Rr S ((A3) 1) := hR
            refine lv_iconst (v := (nI 1)) hx hb dX8_findFaults_44 (by decide) ?_
            refine lv_istore_n (lv' := [(2, .int (nI 1)), (0, .ref mo), (1, .int (nI b))]) hx hb dX8_findFaults_45 rfl hl (by decide) rfl (fun ls hl => ?_)
            have lq : ∀ (fu_lq : Nat) (q1 : Nat), (1 ≤ q1) → (q1 ≤ 4) → (4 - q1 < fu_lq) → ∀ (υ : gS), (∃ A2 : sS, MoAt υ mo A2 ∧ Fx S A A2 b q1 0) → (gAs (gZo mo 16) σ υ) → gL lo υ → ∀ (H : Heap) (locs : List Loc) (ls : Array Slot), H.size = sz → gH D ka υ H → va_S (gA lo) s.heap H locs → lv_has ls 4 [(0, .ref mo), (1, .int (nI b)), (2, .int (nI q1))] → W p l e ({ frames := 5, cells := 0, slots := 0, locals := 113 } : Room) s m ([.ref mo] : List Value).toArray below meth c H locs (0) (0) (MQ below (gQ D ka lo (gxv (fun τ n => n = sz ∧ (∃ A2 : sS, MoAt τ mo A2 ∧ Fx S A A2 (sB S) 0 0) ∧ gAs (gZo mo 16) σ τ))) ([.ref mo] : List Value).toArray s 0 0 (gA lo)) (F0 m 46 ls []) := by
              intro fu_lq
              induction fu_lq with
              | zero => intro q1 hq1 hq2 hm_lq; exact absurd hm_lq (Nat.not_lt_zero _)
              | succ fu_lq ih_lq =>
                intro q1 hq1 hq2 hm_lq υ hEx hag hL H locs ls hz hP hS hl
                obtain ⟨A8, hMo, hFx⟩ := hEx
                have hR : Rr S (A8 1) := by rw [hFx.1 1 (by decide) (by decide) (by decide)]; exact hR0
                have hdo := hFx.2.2.1
                refine lv_iload_n hx hb dX8_findFaults_46 rfl (lv_at hl 2 rfl) ?_
                refine lv_iconst (v := (nI 4)) hx hb dX8_findFaults_47 (by decide) ?_
                refine g_icmp_ge (tgt := 108) (a := q1) (b := 4) hx hb (by omega) (by omega) dX8_findFaults_48 (by decide) (fun c48 => ?_) (fun c48 => ?_)
                · refine lv_iinc (v := (nI (b + 1))) (lv' := [(1, .int (nI (b + 1))), (0, .ref mo), (2, .int (nI q1))]) hx hb dX8_findFaults_108 hl (k := 1) rfl (g_inc b 1) (by decide) rfl (fun ls hl => ?_)
                  refine lv_goto (tgt := 11) hx hb dX8_findFaults_111 (by decide) ?_
                  exact ih_lp (b + 1) (by omega) (by omega) υ ⟨_, hMo, (by rw [show q1 = 4 by omega] at hFx; exact hFx.nb)⟩ hag hL H locs ls hz hP hS (lv_sub hl [1, 0] rfl)
                · refine lv_iconst (v := (nI 0)) hx hb dX8_findFaults_51 (by decide) ?_
                  refine lv_istore_n (lv' := [(3, .int (nI 0)), (0, .ref mo), (1, .int (nI b)), (2, .int (nI q1))]) hx hb dX8_findFaults_52 rfl hl (by decide) rfl (fun ls hl => ?_)
                  have lr : ∀ (fu_lr : Nat) (i : Nat), (i ≤ sN S) → (sN S - i < fu_lr) → ∀ (υ : gS), (∃ A2 : sS, MoAt υ mo A2 ∧ Fx S A A2 b q1 i) → (gAs (gZo mo 16) σ υ) → gL lo υ → ∀ (H : Heap) (locs : List Loc) (ls : Array Slot), H.size = sz → gH D ka υ H → va_S (gA lo) s.heap H locs → lv_has ls 4 [(0, .ref mo), (1, .int (nI b)), (2, .int (nI q1)), (3, .int (nI i))] → W p l e ({ frames := 5, cells := 0, slots := 0, locals := 113 } : Room) s m ([.ref mo] : List Value).toArray below meth c H locs (0) (0) (MQ below (gQ D ka lo (gxv (fun τ n => n = sz ∧ (∃ A2 : sS, MoAt τ mo A2 ∧ Fx S A A2 (sB S) 0 0) ∧ gAs (gZo mo 16) σ τ))) ([.ref mo] : List Value).toArray s 0 0 (gA lo)) (F0 m 53 ls []) := by
                    intro fu_lr
                    induction fu_lr with
                    | zero => intro i hi9 hm_lr; exact absurd hm_lr (Nat.not_lt_zero _)
                    | succ fu_lr ih_lr =>
                      intro i hi9 hm_lr υ hEx hag hL H locs ls hz hP hS hl
                      obtain ⟨A9, hMo, hFx⟩ := hEx
                      have hR : Rr S (A9 1) := by rw [hFx.1 1 (by decide) (by decide) (by decide)]; exact hR0
                      have hdo := hFx.2.2.1
                      refine lv_iload_n hx hb dX8_findFaults_53 rfl (lv_at hl 3 rfl) ?_
                      refine lv_aload_n hx hb dX8_findFaults_54 rfl (lv_at hl 0 rfl) ?_
                      refine g_runV (As := []) (rest := [.int (nI i)]) (own := RX8) (C := RX8) (T := TX8) (N := 20) 0 hx hb hml hown hts hK hz hP hL hS hlo hl.1 (c_X8_singers l mo A9 S  υ sz hMo hR) gX8_findFaults_X8_singers rfl rfl rfl (by decide +kernel) ⟨Nat.le_of_ble_eq_true rfl, Nat.le_of_ble_eq_true rfl⟩ hMo.c0 rfl rfl rfl (Nat.le_of_ble_eq_true rfl) dX8_findFaults_55 ⟨Nat.le_of_ble_eq_true rfl, Nat.le_of_ble_eq_true rfl⟩ (g_ki0 (fun H locs hz hP hL hS => ?_))
                      refine g_icmp_ge (tgt := 102) (a := i) (b := sN S) hx hb (by omega) (by omega) dX8_findFaults_58 (by decide) (fun c58 => ?_) (fun c58 => ?_)
                      · refine lv_iinc (v := (nI (q1 + 1))) (lv' := [(2, .int (nI (q1 + 1))), (0, .ref mo), (1, .int (nI b)), (3, .int (nI i))]) hx hb dX8_findFaults_102 hl (k := 2) rfl (g_inc q1 1) (by decide) rfl (fun ls hl => ?_)
                        refine lv_goto (tgt := 46) hx hb dX8_findFaults_105 (by decide) ?_
                        exact ih_lq (q1 + 1) (by omega) (by omega) (by omega) υ ⟨_, hMo, (hFx.fs 12 (by omega) (fun j h1 h2 => gF_hi (by omega) (by omega))).nq⟩ hag hL H locs ls hz hP hS (lv_sub hl [1, 2, 0] rfl)
                      · refine lv_iload_n hx hb dX8_findFaults_61 rfl (lv_at hl 2 rfl) ?_
                        refine lv_iconst (v := (nI 1)) hx hb dX8_findFaults_62 (by decide) ?_
                        refine g_icmp_ne (tgt := 79) (a := q1) (b := 1) hx hb (by omega) (by omega) dX8_findFaults_63 (by decide) (fun c63 => ?_) (fun c63 => ?_)
                        · refine lv_aload_n hx hb dX8_findFaults_79 rfl (lv_at hl 0 rfl) ?_
                          refine lv_iload_n hx hb dX8_findFaults_80 rfl (lv_at hl 3 rfl) ?_
                          refine lv_iload_n hx hb dX8_findFaults_81 rfl (lv_at hl 1 rfl) ?_
                          refine g_runV (As := [.int (nI i), .int (nI b)]) (rest := []) (own := RX8) (C := RX8) (T := TX8) (N := 20) 2 hx hb hml hown hts hK hz hP hL hS hlo hl.1 (c_X8_sortOfMark l mo A9 S i b υ sz hMo hR (by omega) (by omega) (by omega) (by omega) (by omega)) gX8_findFaults_X8_sortOfMark rfl rfl rfl (by decide +kernel) ⟨Nat.le_of_ble_eq_true rfl, Nat.le_of_ble_eq_true rfl⟩ hMo.c0 rfl rfl rfl (Nat.le_of_ble_eq_true rfl) dX8_findFaults_82 ⟨Nat.le_of_ble_eq_true rfl, Nat.le_of_ble_eq_true rfl⟩ (g_ki0 (fun H locs hz hP hL hS => ?_))
                          refine lv_iload_n hx hb dX8_findFaults_85 rfl (lv_at hl 2 rfl) ?_
                          refine lv_icmp_ne (tgt := 96) hx hb dX8_findFaults_86 (by decide) (fun c86 => ?_) (fun c86 => ?_)
                          · refine lv_iinc (v := (nI (i + 1))) (lv' := [(3, .int (nI (i + 1))), (0, .ref mo), (1, .int (nI b)), (2, .int (nI q1))]) hx hb dX8_findFaults_96 hl (k := 3) rfl (g_inc i 1) (by decide) rfl (fun ls hl => ?_)
                            refine lv_goto (tgt := 53) hx hb dX8_findFaults_99 (by decide) ?_
                            exact ih_lr (i + 1) (by omega) (by omega) υ ⟨_, hMo, (hFx.f (Bool.not_eq_true _ |>.mp (fun q9 => c86 ((sk_q (fun i hi => hdo i b hi (by omega)) (by omega) (by omega) (by omega)).mpr q9))))⟩ hag hL H locs ls hz hP hS (lv_sub hl [1, 2, 3, 0] rfl)
                          · refine lv_aload_n hx hb dX8_findFaults_89 rfl (lv_at hl 0 rfl) ?_
                            refine lv_iload_n hx hb dX8_findFaults_90 rfl (lv_at hl 2 rfl) ?_
                            refine lv_iload_n hx hb dX8_findFaults_91 rfl (lv_at hl 1 rfl) ?_
                            refine lv_iload_n hx hb dX8_findFaults_92 rfl (lv_at hl 3 rfl) ?_
                            have hg : gF S b q1 i = true := (sk_q (fun i hi => hdo i b hi (by omega)) (by omega) (by omega) (by omega)).mp c86
                            have hFl := poG_m hg (by omega) (by omega) (by omega)
                            refine g_runV (As := [.int (nI q1), .int (nI b), .int (nI i)]) (rest := []) (own := RX8) (C := RX8) (T := TX8) (N := 20) 3 hx hb hml hown hts hK hz hP hL hS hlo hl.1 (c_X8_addFault l mo A9 (poG (gF S) b q1 i) ((nI q1)) ((nI b)) ((nI i)) υ sz hMo hFx.2.2.2.1 (by omega)) gX8_findFaults_X8_addFault rfl rfl rfl (by decide +kernel) ⟨Nat.le_of_ble_eq_true rfl, Nat.le_of_ble_eq_true rfl⟩ hMo.c0 rfl rfl rfl (Nat.le_of_ble_eq_true rfl) dX8_findFaults_93 ⟨Nat.le_of_ble_eq_true rfl, Nat.le_of_ble_eq_true rfl⟩ (g_kxv0 (fun τ_10 H locs z1 hz hp hP hL hS => ?_))
                            obtain ⟨hz1, hm_10, ha_10⟩ := hp
                            have hz := hz.trans hz1
                            have hMo := hm_10
                            have hag := hag.tr ha_10 (fun q h => h)
                            refine lv_iinc (v := (nI (i + 1))) (lv' := [(3, .int (nI (i + 1))), (0, .ref mo), (1, .int (nI b)), (2, .int (nI q1))]) hx hb dX8_findFaults_96 hl (k := 3) rfl (g_inc i 1) (by decide) rfl (fun ls hl => ?_)
                            refine lv_goto (tgt := 53) hx hb dX8_findFaults_99 (by decide) ?_
                            exact ih_lr (i + 1) (by omega) (by omega) τ_10 ⟨_, hMo, (hFx.t hg (by omega) (by omega) (by omega) (by rw [if_neg (by omega)]))⟩ hag hL H locs ls hz hP hS (lv_sub hl [1, 2, 3, 0] rfl)
                        · refine lv_aload_n hx hb dX8_findFaults_66 rfl (lv_at hl 0 rfl) ?_
                          refine lv_iload_n hx hb dX8_findFaults_67 rfl (lv_at hl 3 rfl) ?_
                          refine lv_iload_n hx hb dX8_findFaults_68 rfl (lv_at hl 1 rfl) ?_
                          refine g_runV (As := [.int (nI i), .int (nI b)]) (rest := []) (own := RX8) (C := RX8) (T := TX8) (N := 20) 2 hx hb hml hown hts hK hz hP hL hS hlo hl.1 (c_X8_doesAt l mo A9 S i b υ sz hMo hR (by omega) (by omega) (by omega) (by omega)) gX8_findFaults_X8_doesAt rfl rfl rfl (by decide +kernel) ⟨Nat.le_of_ble_eq_true rfl, Nat.le_of_ble_eq_true rfl⟩ hMo.c0 rfl rfl rfl (Nat.le_of_ble_eq_true rfl) dX8_findFaults_69 ⟨Nat.le_of_ble_eq_true rfl, Nat.le_of_ble_eq_true rfl⟩ (g_ki0 (fun H locs hz hP hL hS => ?_))
                          refine lv_iconst (v := (nI 2)) hx hb dX8_findFaults_72 (by decide) ?_
                          refine lv_icmp_ne (tgt := 96) hx hb dX8_findFaults_73 (by decide) (fun c73 => ?_) (fun c73 => ?_)
                          · refine lv_iinc (v := (nI (i + 1))) (lv' := [(3, .int (nI (i + 1))), (0, .ref mo), (1, .int (nI b)), (2, .int (nI q1))]) hx hb dX8_findFaults_96 hl (k := 3) rfl (g_inc i 1) (by decide) rfl (fun ls hl => ?_)
                            refine lv_goto (tgt := 53) hx hb dX8_findFaults_99 (by decide) ?_
                            exact ih_lr (i + 1) (by omega) (by omega) υ ⟨_, hMo, (hFx.f (by rw [show q1 = 1 by omega, gF_1, decide_eq_false (p := dosQ S i b = 2) (fun q9 => c73 ((hdo i b (by omega) (by omega)).trans (by rw [q9]))), Bool.and_false]))⟩ hag hL H locs ls hz hP hS (lv_sub hl [1, 2, 3, 0] rfl)
                          · refine lv_goto (tgt := 89) hx hb dX8_findFaults_76 (by decide) ?_
                            refine lv_aload_n hx hb dX8_findFaults_89 rfl (lv_at hl 0 rfl) ?_
                            refine lv_iload_n hx hb dX8_findFaults_90 rfl (lv_at hl 2 rfl) ?_
                            refine lv_iload_n hx hb dX8_findFaults_91 rfl (lv_at hl 1 rfl) ?_
                            refine lv_iload_n hx hb dX8_findFaults_92 rfl (lv_at hl 3 rfl) ?_
                            have hg : gF S b q1 i = true := by rw [show q1 = 1 by omega, gF_1, decide_eq_true (p := i < sN S) (by omega), decide_eq_true (p := dosQ S i b = 2) ((nIq (dosF_lt _ _ _ _) (by decide)).mp ((hdo i b (by omega) (by omega)).symm.trans c73))]; rfl
                            have hFl := poG_m hg (by omega) (by omega) (by omega)
                            refine g_runV (As := [.int (nI q1), .int (nI b), .int (nI i)]) (rest := []) (own := RX8) (C := RX8) (T := TX8) (N := 20) 3 hx hb hml hown hts hK hz hP hL hS hlo hl.1 (c_X8_addFault l mo A9 (poG (gF S) b q1 i) ((nI q1)) ((nI b)) ((nI i)) υ sz hMo hFx.2.2.2.1 (by omega)) gX8_findFaults_X8_addFault rfl rfl rfl (by decide +kernel) ⟨Nat.le_of_ble_eq_true rfl, Nat.le_of_ble_eq_true rfl⟩ hMo.c0 rfl rfl rfl (Nat.le_of_ble_eq_true rfl) dX8_findFaults_93 ⟨Nat.le_of_ble_eq_true rfl, Nat.le_of_ble_eq_true rfl⟩ (g_kxv0 (fun τ_11 H locs z1 hz hp hP hL hS => ?_))
                            obtain ⟨hz1, hm_11, ha_11⟩ := hp
                            have hz := hz.trans hz1
                            have hMo := hm_11
                            have hag := hag.tr ha_11 (fun q h => h)
                            refine lv_iinc (v := (nI (i + 1))) (lv' := [(3, .int (nI (i + 1))), (0, .ref mo), (1, .int (nI b)), (2, .int (nI q1))]) hx hb dX8_findFaults_96 hl (k := 3) rfl (g_inc i 1) (by decide) rfl (fun ls hl => ?_)
                            refine lv_goto (tgt := 53) hx hb dX8_findFaults_99 (by decide) ?_
                            exact ih_lr (i + 1) (by omega) (by omega) τ_11 ⟨_, hMo, (hFx.t hg (by omega) (by omega) (by omega) (by rw [if_neg (by omega)]))⟩ hag hL H locs ls hz hP hS (lv_sub hl [1, 2, 3, 0] rfl)
                  exact lr _ 0 (by omega) (Nat.lt_succ_self _) υ ⟨_, hMo, hFx⟩ hag hL H locs ls hz hP hS (lv_sub hl [1, 2, 3, 0] rfl)
            exact lq _ 1 (by omega) (by omega) (Nat.lt_succ_self _) υ ⟨_, hMo, hFx⟩ hag hL H locs ls hz hP hS (lv_sub hl [1, 2, 0] rfl)
          · refine lv_aload_n hx hb dX8_findFaults_36 rfl (lv_at hl 0 rfl) ?_
            refine lv_iconst (v := (nI 0)) hx hb dX8_findFaults_37 (by decide) ?_
            refine lv_iload_n hx hb dX8_findFaults_38 rfl (lv_at hl 1 rfl) ?_
            refine lv_bipush (v := (-5)) hx hb dX8_findFaults_39 (by decide) ?_
            have hg : gF S b 0 0 = true := by rw [gF_0, c24, decide_eq_true (p := cntF (fun i => decide (dosQ S i b = 0)) (sN S) = 0) (by rw [← hmy]; exact c33)]; rfl
            have hFl := poG_m hg (by omega) (by decide) (by decide)
            refine g_runV (As := [.int (nI 0), .int (nI b), .int (-5)]) (rest := []) (own := RX8) (C := RX8) (T := TX8) (N := 20) 3 hx hb hml hown hts hK hz hP hL hS hlo hl.1 (c_X8_addFault l mo A3 (poG (gF S) b 0 0) ((nI 0)) ((nI b)) ((-5)) υ sz hMo hFx.2.2.2.1 (by omega)) gX8_findFaults_X8_addFault rfl rfl rfl (by decide +kernel) ⟨Nat.le_of_ble_eq_true rfl, Nat.le_of_ble_eq_true rfl⟩ hMo.c0 rfl rfl rfl (Nat.le_of_ble_eq_true rfl) dX8_findFaults_41 ⟨Nat.le_of_ble_eq_true rfl, Nat.le_of_ble_eq_true rfl⟩ (g_kxv0 (fun τ_12 H locs z1 hz hp hP hL hS => ?_))
            obtain ⟨hz1, hm_12, ha_12⟩ := hp
            have hz := hz.trans hz1
            have hMo := hm_12
            have hag := hag.tr ha_12 (fun q h => h)
            have hFx : Fx S A (addA A3 (poG (gF S) b 0 0) ((nI 0)) ((nI b)) ((-5))) b 0 1 := hFx.t hg (by omega) (by decide) (by decide) rfl
            have hFx : Fx S A (addA A3 (poG (gF S) b 0 0) ((nI 0)) ((nI b)) ((-5))) b 1 0 := (hFx.fs 12 (by decide) (fun j h1 h2 => by rw [gF_0, decide_eq_false (p := j = 0) (by omega), Bool.false_and])).nq
            have hR : Rr S ((addA A3 (poG (gF S) b 0 0) ((nI 0)) ((nI b)) ((-5))) 1) := hR
            refine lv_iconst (v := (nI 1)) hx hb dX8_findFaults_44 (by decide) ?_
            refine lv_istore_n (lv' := [(2, .int (nI 1)), (0, .ref mo), (1, .int (nI b))]) hx hb dX8_findFaults_45 rfl hl (by decide) rfl (fun ls hl => ?_)
            have lq : ∀ (fu_lq : Nat) (q1 : Nat), (1 ≤ q1) → (q1 ≤ 4) → (4 - q1 < fu_lq) → ∀ (υ : gS), (∃ A2 : sS, MoAt υ mo A2 ∧ Fx S A A2 b q1 0) → (gAs (gZo mo 16) σ υ) → gL lo υ → ∀ (H : Heap) (locs : List Loc) (ls : Array Slot), H.size = sz → gH D ka υ H → va_S (gA lo) s.heap H locs → lv_has ls 4 [(0, .ref mo), (1, .int (nI b)), (2, .int (nI q1))] → W p l e ({ frames := 5, cells := 0, slots := 0, locals := 113 } : Room) s m ([.ref mo] : List Value).toArray below meth c H locs (0) (0) (MQ below (gQ D ka lo (gxv (fun τ n => n = sz ∧ (∃ A2 : sS, MoAt τ mo A2 ∧ Fx S A A2 (sB S) 0 0) ∧ gAs (gZo mo 16) σ τ))) ([.ref mo] : List Value).toArray s 0 0 (gA lo)) (F0 m 46 ls []) := by
              intro fu_lq
              induction fu_lq with
              | zero => intro q1 hq1 hq2 hm_lq; exact absurd hm_lq (Nat.not_lt_zero _)
              | succ fu_lq ih_lq =>
                intro q1 hq1 hq2 hm_lq υ hEx hag hL H locs ls hz hP hS hl
                obtain ⟨A13, hMo, hFx⟩ := hEx
                have hR : Rr S (A13 1) := by rw [hFx.1 1 (by decide) (by decide) (by decide)]; exact hR0
                have hdo := hFx.2.2.1
                refine lv_iload_n hx hb dX8_findFaults_46 rfl (lv_at hl 2 rfl) ?_
                refine lv_iconst (v := (nI 4)) hx hb dX8_findFaults_47 (by decide) ?_
                refine g_icmp_ge (tgt := 108) (a := q1) (b := 4) hx hb (by omega) (by omega) dX8_findFaults_48 (by decide) (fun c48 => ?_) (fun c48 => ?_)
                · refine lv_iinc (v := (nI (b + 1))) (lv' := [(1, .int (nI (b + 1))), (0, .ref mo), (2, .int (nI q1))]) hx hb dX8_findFaults_108 hl (k := 1) rfl (g_inc b 1) (by decide) rfl (fun ls hl => ?_)
                  refine lv_goto (tgt := 11) hx hb dX8_findFaults_111 (by decide) ?_
                  exact ih_lp (b + 1) (by omega) (by omega) υ ⟨_, hMo, (by rw [show q1 = 4 by omega] at hFx; exact hFx.nb)⟩ hag hL H locs ls hz hP hS (lv_sub hl [1, 0] rfl)
                · refine lv_iconst (v := (nI 0)) hx hb dX8_findFaults_51 (by decide) ?_
                  refine lv_istore_n (lv' := [(3, .int (nI 0)), (0, .ref mo), (1, .int (nI b)), (2, .int (nI q1))]) hx hb dX8_findFaults_52 rfl hl (by decide) rfl (fun ls hl => ?_)
                  have lr : ∀ (fu_lr : Nat) (i : Nat), (i ≤ sN S) → (sN S - i < fu_lr) → ∀ (υ : gS), (∃ A2 : sS, MoAt υ mo A2 ∧ Fx S A A2 b q1 i) → (gAs (gZo mo 16) σ υ) → gL lo υ → ∀ (H : Heap) (locs : List Loc) (ls : Array Slot), H.size = sz → gH D ka υ H → va_S (gA lo) s.heap H locs → lv_has ls 4 [(0, .ref mo), (1, .int (nI b)), (2, .int (nI q1)), (3, .int (nI i))] → W p l e ({ frames := 5, cells := 0, slots := 0, locals := 113 } : Room) s m ([.ref mo] : List Value).toArray below meth c H locs (0) (0) (MQ below (gQ D ka lo (gxv (fun τ n => n = sz ∧ (∃ A2 : sS, MoAt τ mo A2 ∧ Fx S A A2 (sB S) 0 0) ∧ gAs (gZo mo 16) σ τ))) ([.ref mo] : List Value).toArray s 0 0 (gA lo)) (F0 m 53 ls []) := by
                    intro fu_lr
                    induction fu_lr with
                    | zero => intro i hi9 hm_lr; exact absurd hm_lr (Nat.not_lt_zero _)
                    | succ fu_lr ih_lr =>
                      intro i hi9 hm_lr υ hEx hag hL H locs ls hz hP hS hl
                      obtain ⟨A14, hMo, hFx⟩ := hEx
                      have hR : Rr S (A14 1) := by rw [hFx.1 1 (by decide) (by decide) (by decide)]; exact hR0
                      have hdo := hFx.2.2.1
                      refine lv_iload_n hx hb dX8_findFaults_53 rfl (lv_at hl 3 rfl) ?_
                      refine lv_aload_n hx hb dX8_findFaults_54 rfl (lv_at hl 0 rfl) ?_
                      refine g_runV (As := []) (rest := [.int (nI i)]) (own := RX8) (C := RX8) (T := TX8) (N := 20) 0 hx hb hml hown hts hK hz hP hL hS hlo hl.1 (c_X8_singers l mo A14 S  υ sz hMo hR) gX8_findFaults_X8_singers rfl rfl rfl (by decide +kernel) ⟨Nat.le_of_ble_eq_true rfl, Nat.le_of_ble_eq_true rfl⟩ hMo.c0 rfl rfl rfl (Nat.le_of_ble_eq_true rfl) dX8_findFaults_55 ⟨Nat.le_of_ble_eq_true rfl, Nat.le_of_ble_eq_true rfl⟩ (g_ki0 (fun H locs hz hP hL hS => ?_))
                      refine g_icmp_ge (tgt := 102) (a := i) (b := sN S) hx hb (by omega) (by omega) dX8_findFaults_58 (by decide) (fun c58 => ?_) (fun c58 => ?_)
                      · refine lv_iinc (v := (nI (q1 + 1))) (lv' := [(2, .int (nI (q1 + 1))), (0, .ref mo), (1, .int (nI b)), (3, .int (nI i))]) hx hb dX8_findFaults_102 hl (k := 2) rfl (g_inc q1 1) (by decide) rfl (fun ls hl => ?_)
                        refine lv_goto (tgt := 46) hx hb dX8_findFaults_105 (by decide) ?_
                        exact ih_lq (q1 + 1) (by omega) (by omega) (by omega) υ ⟨_, hMo, (hFx.fs 12 (by omega) (fun j h1 h2 => gF_hi (by omega) (by omega))).nq⟩ hag hL H locs ls hz hP hS (lv_sub hl [1, 2, 0] rfl)
                      · refine lv_iload_n hx hb dX8_findFaults_61 rfl (lv_at hl 2 rfl) ?_
                        refine lv_iconst (v := (nI 1)) hx hb dX8_findFaults_62 (by decide) ?_
                        refine g_icmp_ne (tgt := 79) (a := q1) (b := 1) hx hb (by omega) (by omega) dX8_findFaults_63 (by decide) (fun c63 => ?_) (fun c63 => ?_)
                        · refine lv_aload_n hx hb dX8_findFaults_79 rfl (lv_at hl 0 rfl) ?_
                          refine lv_iload_n hx hb dX8_findFaults_80 rfl (lv_at hl 3 rfl) ?_
                          refine lv_iload_n hx hb dX8_findFaults_81 rfl (lv_at hl 1 rfl) ?_
                          refine g_runV (As := [.int (nI i), .int (nI b)]) (rest := []) (own := RX8) (C := RX8) (T := TX8) (N := 20) 2 hx hb hml hown hts hK hz hP hL hS hlo hl.1 (c_X8_sortOfMark l mo A14 S i b υ sz hMo hR (by omega) (by omega) (by omega) (by omega) (by omega)) gX8_findFaults_X8_sortOfMark rfl rfl rfl (by decide +kernel) ⟨Nat.le_of_ble_eq_true rfl, Nat.le_of_ble_eq_true rfl⟩ hMo.c0 rfl rfl rfl (Nat.le_of_ble_eq_true rfl) dX8_findFaults_82 ⟨Nat.le_of_ble_eq_true rfl, Nat.le_of_ble_eq_true rfl⟩ (g_ki0 (fun H locs hz hP hL hS => ?_))
                          refine lv_iload_n hx hb dX8_findFaults_85 rfl (lv_at hl 2 rfl) ?_
                          refine lv_icmp_ne (tgt := 96) hx hb dX8_findFaults_86 (by decide) (fun c86 => ?_) (fun c86 => ?_)
                          · refine lv_iinc (v := (nI (i + 1))) (lv' := [(3, .int (nI (i + 1))), (0, .ref mo), (1, .int (nI b)), (2, .int (nI q1))]) hx hb dX8_findFaults_96 hl (k := 3) rfl (g_inc i 1) (by decide) rfl (fun ls hl => ?_)
                            refine lv_goto (tgt := 53) hx hb dX8_findFaults_99 (by decide) ?_
                            exact ih_lr (i + 1) (by omega) (by omega) υ ⟨_, hMo, (hFx.f (Bool.not_eq_true _ |>.mp (fun q9 => c86 ((sk_q (fun i hi => hdo i b hi (by omega)) (by omega) (by omega) (by omega)).mpr q9))))⟩ hag hL H locs ls hz hP hS (lv_sub hl [1, 2, 3, 0] rfl)
                          · refine lv_aload_n hx hb dX8_findFaults_89 rfl (lv_at hl 0 rfl) ?_
                            refine lv_iload_n hx hb dX8_findFaults_90 rfl (lv_at hl 2 rfl) ?_
                            refine lv_iload_n hx hb dX8_findFaults_91 rfl (lv_at hl 1 rfl) ?_
                            refine lv_iload_n hx hb dX8_findFaults_92 rfl (lv_at hl 3 rfl) ?_
                            have hg : gF S b q1 i = true := (sk_q (fun i hi => hdo i b hi (by omega)) (by omega) (by omega) (by omega)).mp c86
                            have hFl := poG_m hg (by omega) (by omega) (by omega)
                            refine g_runV (As := [.int (nI q1), .int (nI b), .int (nI i)]) (rest := []) (own := RX8) (C := RX8) (T := TX8) (N := 20) 3 hx hb hml hown hts hK hz hP hL hS hlo hl.1 (c_X8_addFault l mo A14 (poG (gF S) b q1 i) ((nI q1)) ((nI b)) ((nI i)) υ sz hMo hFx.2.2.2.1 (by omega)) gX8_findFaults_X8_addFault rfl rfl rfl (by decide +kernel) ⟨Nat.le_of_ble_eq_true rfl, Nat.le_of_ble_eq_true rfl⟩ hMo.c0 rfl rfl rfl (Nat.le_of_ble_eq_true rfl) dX8_findFaults_93 ⟨Nat.le_of_ble_eq_true rfl, Nat.le_of_ble_eq_true rfl⟩ (g_kxv0 (fun τ_15 H locs z1 hz hp hP hL hS => ?_))
                            obtain ⟨hz1, hm_15, ha_15⟩ := hp
                            have hz := hz.trans hz1
                            have hMo := hm_15
                            have hag := hag.tr ha_15 (fun q h => h)
                            refine lv_iinc (v := (nI (i + 1))) (lv' := [(3, .int (nI (i + 1))), (0, .ref mo), (1, .int (nI b)), (2, .int (nI q1))]) hx hb dX8_findFaults_96 hl (k := 3) rfl (g_inc i 1) (by decide) rfl (fun ls hl => ?_)
                            refine lv_goto (tgt := 53) hx hb dX8_findFaults_99 (by decide) ?_
                            exact ih_lr (i + 1) (by omega) (by omega) τ_15 ⟨_, hMo, (hFx.t hg (by omega) (by omega) (by omega) (by rw [if_neg (by omega)]))⟩ hag hL H locs ls hz hP hS (lv_sub hl [1, 2, 3, 0] rfl)
                        · refine lv_aload_n hx hb dX8_findFaults_66 rfl (lv_at hl 0 rfl) ?_
                          refine lv_iload_n hx hb dX8_findFaults_67 rfl (lv_at hl 3 rfl) ?_
                          refine lv_iload_n hx hb dX8_findFaults_68 rfl (lv_at hl 1 rfl) ?_
                          refine g_runV (As := [.int (nI i), .int (nI b)]) (rest := []) (own := RX8) (C := RX8) (T := TX8) (N := 20) 2 hx hb hml hown hts hK hz hP hL hS hlo hl.1 (c_X8_doesAt l mo A14 S i b υ sz hMo hR (by omega) (by omega) (by omega) (by omega)) gX8_findFaults_X8_doesAt rfl rfl rfl (by decide +kernel) ⟨Nat.le_of_ble_eq_true rfl, Nat.le_of_ble_eq_true rfl⟩ hMo.c0 rfl rfl rfl (Nat.le_of_ble_eq_true rfl) dX8_findFaults_69 ⟨Nat.le_of_ble_eq_true rfl, Nat.le_of_ble_eq_true rfl⟩ (g_ki0 (fun H locs hz hP hL hS => ?_))
                          refine lv_iconst (v := (nI 2)) hx hb dX8_findFaults_72 (by decide) ?_
                          refine lv_icmp_ne (tgt := 96) hx hb dX8_findFaults_73 (by decide) (fun c73 => ?_) (fun c73 => ?_)
                          · refine lv_iinc (v := (nI (i + 1))) (lv' := [(3, .int (nI (i + 1))), (0, .ref mo), (1, .int (nI b)), (2, .int (nI q1))]) hx hb dX8_findFaults_96 hl (k := 3) rfl (g_inc i 1) (by decide) rfl (fun ls hl => ?_)
                            refine lv_goto (tgt := 53) hx hb dX8_findFaults_99 (by decide) ?_
                            exact ih_lr (i + 1) (by omega) (by omega) υ ⟨_, hMo, (hFx.f (by rw [show q1 = 1 by omega, gF_1, decide_eq_false (p := dosQ S i b = 2) (fun q9 => c73 ((hdo i b (by omega) (by omega)).trans (by rw [q9]))), Bool.and_false]))⟩ hag hL H locs ls hz hP hS (lv_sub hl [1, 2, 3, 0] rfl)
                          · refine lv_goto (tgt := 89) hx hb dX8_findFaults_76 (by decide) ?_
                            refine lv_aload_n hx hb dX8_findFaults_89 rfl (lv_at hl 0 rfl) ?_
                            refine lv_iload_n hx hb dX8_findFaults_90 rfl (lv_at hl 2 rfl) ?_
                            refine lv_iload_n hx hb dX8_findFaults_91 rfl (lv_at hl 1 rfl) ?_
                            refine lv_iload_n hx hb dX8_findFaults_92 rfl (lv_at hl 3 rfl) ?_
                            have hg : gF S b q1 i = true := by rw [show q1 = 1 by omega, gF_1, decide_eq_true (p := i < sN S) (by omega), decide_eq_true (p := dosQ S i b = 2) ((nIq (dosF_lt _ _ _ _) (by decide)).mp ((hdo i b (by omega) (by omega)).symm.trans c73))]; rfl
                            have hFl := poG_m hg (by omega) (by omega) (by omega)
                            refine g_runV (As := [.int (nI q1), .int (nI b), .int (nI i)]) (rest := []) (own := RX8) (C := RX8) (T := TX8) (N := 20) 3 hx hb hml hown hts hK hz hP hL hS hlo hl.1 (c_X8_addFault l mo A14 (poG (gF S) b q1 i) ((nI q1)) ((nI b)) ((nI i)) υ sz hMo hFx.2.2.2.1 (by omega)) gX8_findFaults_X8_addFault rfl rfl rfl (by decide +kernel) ⟨Nat.le_of_ble_eq_true rfl, Nat.le_of_ble_eq_true rfl⟩ hMo.c0 rfl rfl rfl (Nat.le_of_ble_eq_true rfl) dX8_findFaults_93 ⟨Nat.le_of_ble_eq_true rfl, Nat.le_of_ble_eq_true rfl⟩ (g_kxv0 (fun τ_16 H locs z1 hz hp hP hL hS => ?_))
                            obtain ⟨hz1, hm_16, ha_16⟩ := hp
                            have hz := hz.trans hz1
                            have hMo := hm_16
                            have hag := hag.tr ha_16 (fun q h => h)
                            refine lv_iinc (v := (nI (i + 1))) (lv' := [(3, .int (nI (i + 1))), (0, .ref mo), (1, .int (nI b)), (2, .int (nI q1))]) hx hb dX8_findFaults_96 hl (k := 3) rfl (g_inc i 1) (by decide) rfl (fun ls hl => ?_)
                            refine lv_goto (tgt := 53) hx hb dX8_findFaults_99 (by decide) ?_
                            exact ih_lr (i + 1) (by omega) (by omega) τ_16 ⟨_, hMo, (hFx.t hg (by omega) (by omega) (by omega) (by rw [if_neg (by omega)]))⟩ hag hL H locs ls hz hP hS (lv_sub hl [1, 2, 3, 0] rfl)
                  exact lr _ 0 (by omega) (Nat.lt_succ_self _) υ ⟨_, hMo, hFx⟩ hag hL H locs ls hz hP hS (lv_sub hl [1, 2, 3, 0] rfl)
            exact lq _ 1 (by omega) (by omega) (Nat.lt_succ_self _) τ_12 ⟨_, hMo, hFx⟩ hag hL H locs ls hz hP hS (lv_sub hl [1, 2, 0] rfl)
  exact lp _ 0 (by omega) (Nat.lt_succ_self _) σ2 ⟨_, hMo, hFx0⟩ hag hL H locs ls hz hP hS (lv_sub hl [1, 0] rfl)

theorem nX8_fault_X8 : ∀ w ∈ wsX80, w ∈ wsX8_fault := by decide +kernel
set_option maxHeartbeats 4000000 in
set_option maxRecDepth 100000 in
theorem c_X8_fault (l : Launch) (mo : Nat) (S : sS) (tf : Nat → Int32) (tn P : Nat) (C : Nat → sS) (kp : Nat → Bool) (a1 a2 : Int32) (σ : gS) (sz : Nat) (hW : Me σ mo S tf tn P C kp) (hok : okS S) (hokC : ∀ k : Nat, k < P → okS (C k)) : gM l yX8_fault wsX8_fault ({ frames := 6, cells := 0, slots := 0, locals := 136 } : Room) 0 0 [.ref mo, .int a1, .int a2] σ sz (gxi (fun r τ n => r = t_fault S (cnG (gF S)) a1 a2 ∧ Me τ mo S tf tn P C kp ∧ n = sz ∧ gAs (gZo mo 16) σ τ)) := by
  refine gM_of (cc := cX8_fault) (maxL := 3) (ret := (some .int)) (by decide) rfl (Nat.le_of_ble_eq_true rfl) ?_
  intro D ka lo hL hlo p e s m below meth c hx hb hr hts hown hml hlk hnm hK H locs ls hz hP hS hl
  have hl : lv_has ls 3 [(0, .ref mo), (1, .int a1), (2, .int a2)] := hl
  have hown : s.vm.findClass RX8 = some m.cls := hown
  obtain ⟨A, hMo, hA⟩ := hW
  have hR := hA.2.2.1
  have hR0 := hR
  have hP0 := hA.1
  have htn0 := hA.2.1
  have hP5 : P ≤ 5 := hA.2.2.2.2.2.2.2.2
  have htn : tn ≤ 60 := hA.2.2.2.2.2.2.2.1
  obtain ⟨hB, hN, hKs, hRs⟩ := id hok
  have hag : gAs (gZo mo 16) σ σ := gAs.rf
  refine lv_iload_n hx hb dX8_fault_0 rfl (lv_at hl 1 rfl) ?_
  refine lv_if_lt (tgt := 13) hx hb dX8_fault_1 (by decide) (fun c1 => ?_) (fun c1 => ?_)
  · refine lv_bipush (v := (-2)) hx hb dX8_fault_13 (by decide) ?_
    exact g_iret (z := sz) hx hb hr hlk hz hP hL hS dX8_fault_15 (gxi_i ⟨by rw [t_fault, if_pos c1], ⟨_, hMo, hA⟩, rfl, hag⟩)
  · obtain ⟨q1, hq1, hq2⟩ := nI_of c1
    have ha1e : a1 = nI (tk a1) := by rw [hq2, tk_n hq1]
    have ha1l : tk a1 < 2147483648 := by rw [hq2, tk_n hq1]; exact hq1
    refine lv_iload_n hx hb dX8_fault_4 rfl (lv_at hl 2 rfl) ?_
    refine lv_iconst (v := (nI 0)) hx hb dX8_fault_5 (by decide) ?_
    refine lv_iconst (v := (nI 2)) hx hb dX8_fault_6 (by decide) ?_
    refine g_runS (As := [.int a2, .int (nI 0), .int (nI 2)]) (rest := []) (own := RX8) 3 hx hb hml hown hts hK hz hP hL hS hlo hl.1 (c_X8_in l a2 ((nI 0)) ((nI 2)) σ sz) gX8_fault_X8_in rfl rfl rfl (by decide +kernel) ⟨Nat.le_of_ble_eq_true rfl, Nat.le_of_ble_eq_true rfl⟩ rfl rfl (Nat.le_of_ble_eq_true rfl) dX8_fault_7 ⟨Nat.le_of_ble_eq_true rfl, Nat.le_of_ble_eq_true rfl⟩ (g_ki0 (fun H locs hz hP hL hS => ?_))
    refine g_ifb_ne (tgt := 16) hx hb dX8_fault_10 (by decide) (fun c10 => ?_) (fun c10 => ?_)
    · obtain ⟨ha2e, ha2l⟩ := tk_wi (by decide) (by decide) c10
      refine lv_aload_n hx hb dX8_fault_16 rfl (lv_at hl 0 rfl) ?_
      refine g_runV (As := []) (rest := []) (own := RX8) (C := RX8) (T := TX8) (N := 20) 0 hx hb hml hown hts hK hz hP hL hS hlo hl.1 (c_X8_findFaults l mo A S σ sz hMo hR (by omega) (by omega) (by omega)) gX8_fault_X8_findFaults rfl rfl rfl (by decide +kernel) ⟨Nat.le_of_ble_eq_true rfl, Nat.le_of_ble_eq_true rfl⟩ hMo.c0 rfl rfl rfl (Nat.le_of_ble_eq_true rfl) dX8_fault_17 ⟨Nat.le_of_ble_eq_true rfl, Nat.le_of_ble_eq_true rfl⟩ (g_kxv0 (fun τ_1 H locs z1 hz hp hP hL hS => ?_))
      obtain ⟨hz1, ⟨B_1, hm_1, hFx⟩, ha_1⟩ := hp
      have hz := hz.trans hz1
      have hMo := hm_1
      have hag := hag.tr ha_1 (fun q h => h)
      have hR : Rr S (B_1 1) := by rw [hFx.1 1 (by decide) (by decide) (by decide)]; exact hR
      have hFe := poG_e (S := S) hB
      refine lv_iload_n hx hb dX8_fault_20 rfl (lv_at hl 1 rfl) ?_
      refine g_top (y := (nI (tk a1))) ha1e ?_
      refine lv_aload_n hx hb dX8_fault_21 rfl (lv_at hl 0 rfl) ?_
      refine g_get (C := RX8) (T := TX8) (N := 20) hx hb hts hown hK hP hMo.c0 nX8_fault_X8 rfl 16 (by decide) (by decide +kernel) rfl (v := .int (nI (tN B_1 4))) rfl dX8_fault_22 ?_
      refine g_top (y := (nI (poG (gF S) (sB S) 0 0))) (congrArg nI hFx.2.2.2.1) ?_
      refine g_icmp_lt (tgt := 31) (a := tk a1) (b := poG (gF S) (sB S) 0 0) hx hb (by omega) (by omega) dX8_fault_25 (by decide) (fun c25 => ?_) (fun c25 => ?_)
      · refine lv_iload_n hx hb dX8_fault_31 rfl (lv_at hl 2 rfl) ?_
        refine g_top (y := (nI (tk a2))) ha2e ?_
        refine g_if_ne (tgt := 44) hx hb (by omega) dX8_fault_32 (by decide) (fun c32 => ?_) (fun c32 => ?_)
        · refine lv_iload_n hx hb dX8_fault_44 rfl (lv_at hl 2 rfl) ?_
          refine g_top (y := (nI (tk a2))) ha2e ?_
          refine lv_iconst (v := (nI 1)) hx hb dX8_fault_45 (by decide) ?_
          refine g_icmp_ne (tgt := 58) (a := tk a2) (b := 1) hx hb (by omega) (by omega) dX8_fault_46 (by decide) (fun c46 => ?_) (fun c46 => ?_)
          · refine lv_aload_n hx hb dX8_fault_58 rfl (lv_at hl 0 rfl) ?_
            refine g_get (C := RX8) (T := TX8) (N := 20) hx hb hts hown hK hP hMo.c0 nX8_fault_X8 rfl 19 (by decide) (by decide +kernel) rfl (v := .ref (mo + 15)) rfl dX8_fault_59 ?_
            refine lv_iload_n hx hb dX8_fault_62 rfl (lv_at hl 1 rfl) ?_
            refine g_top (y := (nI (tk a1))) ha1e ?_
            refine g_iald hx hb hK hP hMo.c15 (i := nI (tk a1)) (vp_in_nI (by omega) (by omega)) dX8_fault_63 ?_
            rw [nI_clamp (n := tk a1) (by omega)]
            exact g_iret (z := sz) hx hb hr hlk hz hP hL hS dX8_fault_64 (gxi_i ⟨by rw [t_fault, if_neg c1, if_pos c10, tel_ref hN hFx.2.2.2, if_pos (by omega), if_neg (by omega), if_neg (by omega)], ⟨_, hMo, hA.scr2 (fun k hk => hFx.2.1 k (by omega)) hFx.1⟩, rfl, hag⟩)
          · refine lv_aload_n hx hb dX8_fault_49 rfl (lv_at hl 0 rfl) ?_
            refine g_get (C := RX8) (T := TX8) (N := 20) hx hb hts hown hK hP hMo.c0 nX8_fault_X8 rfl 18 (by decide) (by decide +kernel) rfl (v := .ref (mo + 14)) rfl dX8_fault_50 ?_
            refine lv_iload_n hx hb dX8_fault_53 rfl (lv_at hl 1 rfl) ?_
            refine g_top (y := (nI (tk a1))) ha1e ?_
            refine g_iald hx hb hK hP hMo.c14 (i := nI (tk a1)) (vp_in_nI (by omega) (by omega)) dX8_fault_54 ?_
            rw [nI_clamp (n := tk a1) (by omega)]
            refine lv_goto (tgt := 64) hx hb dX8_fault_55 (by decide) ?_
            exact g_iret (z := sz) hx hb hr hlk hz hP hL hS dX8_fault_64 (gxi_i ⟨by rw [t_fault, if_neg c1, if_pos c10, tel_ref hN hFx.2.2.2, if_pos (by omega), if_neg (by omega), if_pos (by omega)], ⟨_, hMo, hA.scr2 (fun k hk => hFx.2.1 k (by omega)) hFx.1⟩, rfl, hag⟩)
        · refine lv_aload_n hx hb dX8_fault_35 rfl (lv_at hl 0 rfl) ?_
          refine g_get (C := RX8) (T := TX8) (N := 20) hx hb hts hown hK hP hMo.c0 nX8_fault_X8 rfl 17 (by decide) (by decide +kernel) rfl (v := .ref (mo + 13)) rfl dX8_fault_36 ?_
          refine lv_iload_n hx hb dX8_fault_39 rfl (lv_at hl 1 rfl) ?_
          refine g_top (y := (nI (tk a1))) ha1e ?_
          refine g_iald hx hb hK hP hMo.c13 (i := nI (tk a1)) (vp_in_nI (by omega) (by omega)) dX8_fault_40 ?_
          rw [nI_clamp (n := tk a1) (by omega)]
          refine lv_goto (tgt := 64) hx hb dX8_fault_41 (by decide) ?_
          exact g_iret (z := sz) hx hb hr hlk hz hP hL hS dX8_fault_64 (gxi_i ⟨by rw [t_fault, if_neg c1, if_pos c10, tel_ref hN hFx.2.2.2, if_pos (by omega), if_pos (by omega)], ⟨_, hMo, hA.scr2 (fun k hk => hFx.2.1 k (by omega)) hFx.1⟩, rfl, hag⟩)
      · refine lv_bipush (v := (-5)) hx hb dX8_fault_28 (by decide) ?_
        exact g_iret (z := sz) hx hb hr hlk hz hP hL hS dX8_fault_30 (gxi_i ⟨by rw [t_fault, if_neg c1, if_pos c10, tel_ref hN hFx.2.2.2, if_neg (by omega)], ⟨_, hMo, hA.scr2 (fun k hk => hFx.2.1 k (by omega)) hFx.1⟩, rfl, hag⟩)
    · refine lv_bipush (v := (-2)) hx hb dX8_fault_13 (by decide) ?_
      exact g_iret (z := sz) hx hb hr hlk hz hP hL hS dX8_fault_15 (gxi_i ⟨by rw [t_fault, if_neg c1, if_neg (nb c10)], ⟨_, hMo, hA⟩, rfl, hag⟩)

theorem nX8_count_X8 : ∀ w ∈ wsX80, w ∈ wsX8_count := by decide +kernel
set_option maxHeartbeats 4000000 in
set_option maxRecDepth 100000 in
theorem c_X8_count (l : Launch) (mo : Nat) (S : sS) (tf : Nat → Int32) (tn P : Nat) (C : Nat → sS) (kp : Nat → Bool) (a1 : Int32) (σ : gS) (sz : Nat) (hW : Me σ mo S tf tn P C kp) (hok : okS S) (hokC : ∀ k : Nat, k < P → okS (C k)) (hpb : smB (S 8 2) (sN S)) (hsm : ∀ b : Nat, b < sB S → smB (S 2 b) (sN S)) : gM l yX8_count wsX8_count ({ frames := 6, cells := 0, slots := 0, locals := 136 } : Room) 0 0 [.ref mo, .int a1] σ sz (gxi (fun r τ n => r = t_count S tn P a1 ∧ Me τ mo S tf tn P C kp ∧ n = sz ∧ gAs (gZo mo 16) σ τ)) := by
  refine gM_of (cc := cX8_count) (maxL := 7) (ret := (some .int)) (by decide) rfl (Nat.le_of_ble_eq_true rfl) ?_
  intro D ka lo hL hlo p e s m below meth c hx hb hr hts hown hml hlk hnm hK H locs ls hz hP hS hl
  have hl : lv_has ls 7 [(0, .ref mo), (1, .int a1)] := hl
  have hown : s.vm.findClass RX8 = some m.cls := hown
  obtain ⟨A, hMo, hA⟩ := hW
  have hR := hA.2.2.1
  have hR0 := hR
  have hP0 := hA.1
  have htn0 := hA.2.1
  have hP5 : P ≤ 5 := hA.2.2.2.2.2.2.2.2
  have htn : tn ≤ 60 := hA.2.2.2.2.2.2.2.1
  obtain ⟨hB, hN, hKs, hRs⟩ := id hok
  have hag : gAs (gZo mo 16) σ σ := gAs.rf
  refine lv_aload_n hx hb dX8_count_0 rfl (lv_at hl 0 rfl) ?_
  refine g_runV (As := []) (rest := []) (own := RX8) (C := RX8) (T := TX8) (N := 20) 0 hx hb hml hown hts hK hz hP hL hS hlo hl.1 (c_X8_findFaults l mo A S σ sz hMo hR (by omega) (by omega) (by omega)) gX8_count_X8_findFaults rfl rfl rfl (by decide +kernel) ⟨Nat.le_of_ble_eq_true rfl, Nat.le_of_ble_eq_true rfl⟩ hMo.c0 rfl rfl rfl (Nat.le_of_ble_eq_true rfl) dX8_count_1 ⟨Nat.le_of_ble_eq_true rfl, Nat.le_of_ble_eq_true rfl⟩ (g_kxv0 (fun τ_1 H locs z1 hz hp hP hL hS => ?_))
  obtain ⟨hz1, ⟨B_1, hm_1, hFx⟩, ha_1⟩ := hp
  have hz := hz.trans hz1
  have hMo := hm_1
  have hag := hag.tr ha_1 (fun q h => h)
  have hR : Rr S (B_1 1) := by rw [hFx.1 1 (by decide) (by decide) (by decide)]; exact hR
  have hFe := poG_e (S := S) hB
  refine lv_iconst (v := (nI 0)) hx hb dX8_count_4 (by decide) ?_
  refine lv_istore_n (lv' := [(2, .int (nI 0)), (0, .ref mo), (1, .int a1)]) hx hb dX8_count_5 rfl hl (by decide) rfl (fun ls hl => ?_)
  refine lv_iconst (v := (nI 0)) hx hb dX8_count_6 (by decide) ?_
  refine lv_istore_n (lv' := [(3, .int (nI 0)), (2, .int (nI 0)), (0, .ref mo), (1, .int a1)]) hx hb dX8_count_7 rfl hl (by decide) rfl (fun ls hl => ?_)
  refine lv_iconst (v := (nI 0)) hx hb dX8_count_8 (by decide) ?_
  refine lv_istore (lv' := [(4, .int (nI 0)), (3, .int (nI 0)), (2, .int (nI 0)), (0, .ref mo), (1, .int a1)]) hx hb dX8_count_9 hl (by decide) rfl (fun ls hl => ?_)
  refine lv_iconst (v := (nI 0)) hx hb dX8_count_11 (by decide) ?_
  refine lv_istore (lv' := [(5, .int (nI 0)), (4, .int (nI 0)), (3, .int (nI 0)), (2, .int (nI 0)), (0, .ref mo), (1, .int a1)]) hx hb dX8_count_12 hl (by decide) rfl (fun ls hl => ?_)
  have lp : ∀ (fu_lp : Nat) (k : Nat), (k ≤ sB S) → (sB S - k < fu_lp) → ∀ (H : Heap) (locs : List Loc) (ls : Array Slot), H.size = sz → gH D ka τ_1 H → va_S (gA lo) s.heap H locs → lv_has ls 7 [(0, .ref mo), (1, .int a1), (2, .int (nI (cntF (fun b => restB S b) k))), (3, .int (nI (cntF (fun b => decide (firstI S b = nI b)) k))), (4, .int (nI (lonF S k))), (5, .int (nI k))] → W p l e ({ frames := 6, cells := 0, slots := 0, locals := 136 } : Room) s m ([.ref mo, .int a1] : List Value).toArray below meth c H locs (0) (0) (MQ below (gQ D ka lo (gxi (fun r τ n => r = t_count S tn P a1 ∧ Me τ mo S tf tn P C kp ∧ n = sz ∧ gAs (gZo mo 16) σ τ))) ([.ref mo, .int a1] : List Value).toArray s 0 0 (gA lo)) (F0 m 14 ls []) := by
    intro fu_lp
    induction fu_lp with
    | zero => intro k hk hm_lp; exact absurd hm_lp (Nat.not_lt_zero _)
    | succ fu_lp ih_lp =>
      intro k hk hm_lp H locs ls hz hP hS hl
      have hlo9 := lonF_le S k
      refine lv_iload hx hb dX8_count_14 (lv_at hl 5 rfl) ?_
      refine lv_aload_n hx hb dX8_count_16 rfl (lv_at hl 0 rfl) ?_
      refine g_runV (As := []) (rest := [.int (nI k)]) (own := RX8) (C := RX8) (T := TX8) (N := 20) 0 hx hb hml hown hts hK hz hP hL hS hlo hl.1 (c_X8_beats l mo B_1 S  τ_1 sz hMo hR) gX8_count_X8_beats rfl rfl rfl (by decide +kernel) ⟨Nat.le_of_ble_eq_true rfl, Nat.le_of_ble_eq_true rfl⟩ hMo.c0 rfl rfl rfl (Nat.le_of_ble_eq_true rfl) dX8_count_17 ⟨Nat.le_of_ble_eq_true rfl, Nat.le_of_ble_eq_true rfl⟩ (g_ki0 (fun H locs hz hP hL hS => ?_))
      refine g_icmp_ge (tgt := 107) (a := k) (b := sB S) hx hb (by omega) (by omega) dX8_count_20 (by decide) (fun c20 => ?_) (fun c20 => ?_)
      · refine lv_iload_n hx hb dX8_count_107 rfl (lv_at hl 1 rfl) ?_
        rcases Decidable.em (inB a1 (nI 0) (nI 15) = true) with hin108 | hout108
        · obtain ⟨k108, hk1, hk2, hke⟩ := inB_of (by decide) (by decide) hin108
          rcases (show k108 = 0 ∨ k108 = 1 ∨ k108 = 2 ∨ k108 = 3 ∨ k108 = 4 ∨ k108 = 5 ∨ k108 = 6 ∨ k108 = 7 ∨ k108 = 8 ∨ k108 = 9 ∨ k108 = 10 ∨ k108 = 11 ∨ k108 = 12 ∨ k108 = 13 ∨ k108 = 14 ∨ k108 = 15 by omega) with hk0 | hk0 | hk0 | hk0 | hk0 | hk0 | hk0 | hk0 | hk0 | hk0 | hk0 | hk0 | hk0 | hk0 | hk0 | hk0
          · have hsw : a1 = nI 0 := by rw [hke, hk0]
            refine g_top (y := nI 0) hsw ?_
            refine lv_tableIn (tgt := 188) (off := 80) hx hb dX8_count_108 (by decide) (by decide) (by decide) (by decide) ?_
            refine lv_aload_n hx hb dX8_count_188 rfl (lv_at hl 0 rfl) ?_
            refine g_runV (As := []) (rest := []) (own := RX8) (C := RX8) (T := TX8) (N := 20) 0 hx hb hml hown hts hK hz hP hL hS hlo hl.1 (c_X8_beats l mo B_1 S  τ_1 sz hMo hR) gX8_count_X8_beats rfl rfl rfl (by decide +kernel) ⟨Nat.le_of_ble_eq_true rfl, Nat.le_of_ble_eq_true rfl⟩ hMo.c0 rfl rfl rfl (Nat.le_of_ble_eq_true rfl) dX8_count_189 ⟨Nat.le_of_ble_eq_true rfl, Nat.le_of_ble_eq_true rfl⟩ (g_ki0 (fun H locs hz hP hL hS => ?_))
            exact g_iret (z := sz) hx hb hr hlk hz hP hL hS dX8_count_192 (gxi_i ⟨by unfold t_count; rw [if_pos hsw], ⟨_, hMo, hA.scr2 (fun k hk => hFx.2.1 k (by omega)) hFx.1⟩, rfl, hag⟩)
          · have hsw : a1 = nI 1 := by rw [hke, hk0]
            refine g_top (y := nI 1) hsw ?_
            refine lv_tableIn (tgt := 193) (off := 85) hx hb dX8_count_108 (by decide) (by decide) (by decide) (by decide) ?_
            refine lv_iload_n hx hb dX8_count_193 rfl (lv_at hl 2 rfl) ?_
            exact g_iret (z := sz) hx hb hr hlk hz hP hL hS dX8_count_194 (gxi_i ⟨by unfold t_count; rw [if_neg (by rw [hsw]; decide), if_pos hsw, show sB S = k by omega], ⟨_, hMo, hA.scr2 (fun k hk => hFx.2.1 k (by omega)) hFx.1⟩, rfl, hag⟩)
          · have hsw : a1 = nI 2 := by rw [hke, hk0]
            refine g_top (y := nI 2) hsw ?_
            refine lv_tableIn (tgt := 195) (off := 87) hx hb dX8_count_108 (by decide) (by decide) (by decide) (by decide) ?_
            refine lv_iload_n hx hb dX8_count_195 rfl (lv_at hl 3 rfl) ?_
            exact g_iret (z := sz) hx hb hr hlk hz hP hL hS dX8_count_196 (gxi_i ⟨by unfold t_count; rw [if_neg (by rw [hsw]; decide), if_neg (by rw [hsw]; decide), if_pos hsw, show sB S = k by omega], ⟨_, hMo, hA.scr2 (fun k hk => hFx.2.1 k (by omega)) hFx.1⟩, rfl, hag⟩)
          · have hsw : a1 = nI 3 := by rw [hke, hk0]
            refine g_top (y := nI 3) hsw ?_
            refine lv_tableIn (tgt := 197) (off := 89) hx hb dX8_count_108 (by decide) (by decide) (by decide) (by decide) ?_
            refine lv_aload_n hx hb dX8_count_197 rfl (lv_at hl 0 rfl) ?_
            refine g_runV (As := []) (rest := []) (own := RX8) (C := RX8) (T := TX8) (N := 20) 0 hx hb hml hown hts hK hz hP hL hS hlo hl.1 (c_X8_singers l mo B_1 S  τ_1 sz hMo hR) gX8_count_X8_singers rfl rfl rfl (by decide +kernel) ⟨Nat.le_of_ble_eq_true rfl, Nat.le_of_ble_eq_true rfl⟩ hMo.c0 rfl rfl rfl (Nat.le_of_ble_eq_true rfl) dX8_count_198 ⟨Nat.le_of_ble_eq_true rfl, Nat.le_of_ble_eq_true rfl⟩ (g_ki0 (fun H locs hz hP hL hS => ?_))
            exact g_iret (z := sz) hx hb hr hlk hz hP hL hS dX8_count_201 (gxi_i ⟨by unfold t_count; rw [if_neg (by rw [hsw]; decide), if_neg (by rw [hsw]; decide), if_neg (by rw [hsw]; decide), if_pos hsw], ⟨_, hMo, hA.scr2 (fun k hk => hFx.2.1 k (by omega)) hFx.1⟩, rfl, hag⟩)
          · have hsw : a1 = nI 4 := by rw [hke, hk0]
            refine g_top (y := nI 4) hsw ?_
            refine lv_tableIn (tgt := 202) (off := 94) hx hb dX8_count_108 (by decide) (by decide) (by decide) (by decide) ?_
            refine lv_aload_n hx hb dX8_count_202 rfl (lv_at hl 0 rfl) ?_
            refine g_runV (As := []) (rest := []) (own := RX8) (C := RX8) (T := TX8) (N := 20) 0 hx hb hml hown hts hK hz hP hL hS hlo hl.1 (c_X8_presentOnes l mo B_1 S  τ_1 sz hMo hR (by omega)) gX8_count_X8_presentOnes rfl rfl rfl (by decide +kernel) ⟨Nat.le_of_ble_eq_true rfl, Nat.le_of_ble_eq_true rfl⟩ hMo.c0 rfl rfl rfl (Nat.le_of_ble_eq_true rfl) dX8_count_203 ⟨Nat.le_of_ble_eq_true rfl, Nat.le_of_ble_eq_true rfl⟩ (g_ki0 (fun H locs hz hP hL hS => ?_))
            exact g_iret (z := sz) hx hb hr hlk hz hP hL hS dX8_count_206 (gxi_i ⟨by unfold t_count; rw [if_neg (by rw [hsw]; decide), if_neg (by rw [hsw]; decide), if_neg (by rw [hsw]; decide), if_neg (by rw [hsw]; decide), if_pos hsw]; exact (bcI_n hpb hN).symm, ⟨_, hMo, hA.scr2 (fun k hk => hFx.2.1 k (by omega)) hFx.1⟩, rfl, hag⟩)
          · have hsw : a1 = nI 5 := by rw [hke, hk0]
            refine g_top (y := nI 5) hsw ?_
            refine lv_tableIn (tgt := 207) (off := 99) hx hb dX8_count_108 (by decide) (by decide) (by decide) (by decide) ?_
            refine lv_aload_n hx hb dX8_count_207 rfl (lv_at hl 0 rfl) ?_
            refine g_runV (As := []) (rest := []) (own := RX8) (C := RX8) (T := TX8) (N := 20) 0 hx hb hml hown hts hK hz hP hL hS hlo hl.1 (c_X8_solos l mo B_1 S  τ_1 sz hMo hR) gX8_count_X8_solos rfl rfl rfl (by decide +kernel) ⟨Nat.le_of_ble_eq_true rfl, Nat.le_of_ble_eq_true rfl⟩ hMo.c0 rfl rfl rfl (Nat.le_of_ble_eq_true rfl) dX8_count_208 ⟨Nat.le_of_ble_eq_true rfl, Nat.le_of_ble_eq_true rfl⟩ (g_ki0 (fun H locs hz hP hL hS => ?_))
            exact g_iret (z := sz) hx hb hr hlk hz hP hL hS dX8_count_211 (gxi_i ⟨by unfold t_count; rw [if_neg (by rw [hsw]; decide), if_neg (by rw [hsw]; decide), if_neg (by rw [hsw]; decide), if_neg (by rw [hsw]; decide), if_neg (by rw [hsw]; decide), if_pos hsw], ⟨_, hMo, hA.scr2 (fun k hk => hFx.2.1 k (by omega)) hFx.1⟩, rfl, hag⟩)
          · have hsw : a1 = nI 6 := by rw [hke, hk0]
            refine g_top (y := nI 6) hsw ?_
            refine lv_tableIn (tgt := 212) (off := 104) hx hb dX8_count_108 (by decide) (by decide) (by decide) (by decide) ?_
            refine lv_aload_n hx hb dX8_count_212 rfl (lv_at hl 0 rfl) ?_
            refine g_runV (As := []) (rest := []) (own := RX8) (C := RX8) (T := TX8) (N := 20) 0 hx hb hml hown hts hK hz hP hL hS hlo hl.1 (c_X8_allMarks l mo B_1 S  τ_1 sz hMo hR (by omega) (by omega)) gX8_count_X8_allMarks rfl rfl rfl (by decide +kernel) ⟨Nat.le_of_ble_eq_true rfl, Nat.le_of_ble_eq_true rfl⟩ hMo.c0 rfl rfl rfl (Nat.le_of_ble_eq_true rfl) dX8_count_213 ⟨Nat.le_of_ble_eq_true rfl, Nat.le_of_ble_eq_true rfl⟩ (g_ki0 (fun H locs hz hP hL hS => ?_))
            exact g_iret (z := sz) hx hb hr hlk hz hP hL hS dX8_count_216 (gxi_i ⟨by unfold t_count; rw [if_neg (by rw [hsw]; decide), if_neg (by rw [hsw]; decide), if_neg (by rw [hsw]; decide), if_neg (by rw [hsw]; decide), if_neg (by rw [hsw]; decide), if_neg (by rw [hsw]; decide), if_pos hsw]; exact (marks_two hN hsm).symm, ⟨_, hMo, hA.scr2 (fun k hk => hFx.2.1 k (by omega)) hFx.1⟩, rfl, hag⟩)
          · have hsw : a1 = nI 7 := by rw [hke, hk0]
            refine g_top (y := nI 7) hsw ?_
            refine lv_tableIn (tgt := 217) (off := 109) hx hb dX8_count_108 (by decide) (by decide) (by decide) (by decide) ?_
            refine lv_aload_n hx hb dX8_count_217 rfl (lv_at hl 0 rfl) ?_
            refine g_get (C := RX8) (T := TX8) (N := 20) hx hb hts hown hK hP hMo.c0 nX8_count_X8 rfl 16 (by decide) (by decide +kernel) rfl (v := .int (nI (tN B_1 4))) rfl dX8_count_218 ?_
            exact g_iret (z := sz) hx hb hr hlk hz hP hL hS dX8_count_221 (gxi_i ⟨by unfold t_count; rw [if_neg (by rw [hsw]; decide), if_neg (by rw [hsw]; decide), if_neg (by rw [hsw]; decide), if_neg (by rw [hsw]; decide), if_neg (by rw [hsw]; decide), if_neg (by rw [hsw]; decide), if_neg (by rw [hsw]; decide), if_pos hsw]; exact ((csu_4 hN).trans (congrArg nI hFx.2.2.2.1.symm)).symm, ⟨_, hMo, hA.scr2 (fun k hk => hFx.2.1 k (by omega)) hFx.1⟩, rfl, hag⟩)
          · have hsw : a1 = nI 8 := by rw [hke, hk0]
            refine g_top (y := nI 8) hsw ?_
            refine lv_tableIn (tgt := 222) (off := 114) hx hb dX8_count_108 (by decide) (by decide) (by decide) (by decide) ?_
            refine lv_aload_n hx hb dX8_count_222 rfl (lv_at hl 0 rfl) ?_
            refine lv_iload_n hx hb dX8_count_223 rfl (lv_at hl 1 rfl) ?_
            refine g_top (y := (nI 8)) hsw ?_
            refine lv_bipush (v := (nI 8)) hx hb dX8_count_224 (by decide) ?_
            refine lv_isub hx hb dX8_count_226 ?_
            refine g_top (pk_sub (by omega : 8 ≤ 8)) ?_
            refine g_runV (As := [.int (nI (8 - 8))]) (rest := []) (own := RX8) (C := RX8) (T := TX8) (N := 20) 1 hx hb hml hown hts hK hz hP hL hS hlo hl.1 (c_X8_faultsOf l mo B_1 (poG (gF S) (sB S) 0 0) (8 - 8) τ_1 sz hMo hFx.2.2.2.1 (by omega)) gX8_count_X8_faultsOf rfl rfl rfl (by decide +kernel) ⟨Nat.le_of_ble_eq_true rfl, Nat.le_of_ble_eq_true rfl⟩ hMo.c0 rfl rfl rfl (Nat.le_of_ble_eq_true rfl) dX8_count_227 ⟨Nat.le_of_ble_eq_true rfl, Nat.le_of_ble_eq_true rfl⟩ (g_ki0 (fun H locs hz hP hL hS => ?_))
            exact g_iret (z := sz) hx hb hr hlk hz hP hL hS dX8_count_230 (gxi_i ⟨by unfold t_count; rw [if_neg (by rw [hsw]; decide), if_neg (by rw [hsw]; decide), if_neg (by rw [hsw]; decide), if_neg (by rw [hsw]; decide), if_neg (by rw [hsw]; decide), if_neg (by rw [hsw]; decide), if_neg (by rw [hsw]; decide), if_neg (by rw [hsw]; decide), if_pos hsw]; exact ((csu_1 hN (q := 0) (by decide)).trans (congrArg nI (hFx.2.2.2.2.2 0 (by decide)).symm)).symm, ⟨_, hMo, hA.scr2 (fun k hk => hFx.2.1 k (by omega)) hFx.1⟩, rfl, hag⟩)
          · have hsw : a1 = nI 9 := by rw [hke, hk0]
            refine g_top (y := nI 9) hsw ?_
            refine lv_tableIn (tgt := 222) (off := 114) hx hb dX8_count_108 (by decide) (by decide) (by decide) (by decide) ?_
            refine lv_aload_n hx hb dX8_count_222 rfl (lv_at hl 0 rfl) ?_
            refine lv_iload_n hx hb dX8_count_223 rfl (lv_at hl 1 rfl) ?_
            refine g_top (y := (nI 9)) hsw ?_
            refine lv_bipush (v := (nI 8)) hx hb dX8_count_224 (by decide) ?_
            refine lv_isub hx hb dX8_count_226 ?_
            refine g_top (pk_sub (by omega : 8 ≤ 9)) ?_
            refine g_runV (As := [.int (nI (9 - 8))]) (rest := []) (own := RX8) (C := RX8) (T := TX8) (N := 20) 1 hx hb hml hown hts hK hz hP hL hS hlo hl.1 (c_X8_faultsOf l mo B_1 (poG (gF S) (sB S) 0 0) (9 - 8) τ_1 sz hMo hFx.2.2.2.1 (by omega)) gX8_count_X8_faultsOf rfl rfl rfl (by decide +kernel) ⟨Nat.le_of_ble_eq_true rfl, Nat.le_of_ble_eq_true rfl⟩ hMo.c0 rfl rfl rfl (Nat.le_of_ble_eq_true rfl) dX8_count_227 ⟨Nat.le_of_ble_eq_true rfl, Nat.le_of_ble_eq_true rfl⟩ (g_ki0 (fun H locs hz hP hL hS => ?_))
            exact g_iret (z := sz) hx hb hr hlk hz hP hL hS dX8_count_230 (gxi_i ⟨by unfold t_count; rw [if_neg (by rw [hsw]; decide), if_neg (by rw [hsw]; decide), if_neg (by rw [hsw]; decide), if_neg (by rw [hsw]; decide), if_neg (by rw [hsw]; decide), if_neg (by rw [hsw]; decide), if_neg (by rw [hsw]; decide), if_neg (by rw [hsw]; decide), if_neg (by rw [hsw]; decide), if_pos hsw]; exact ((csu_1 hN (q := 1) (by decide)).trans (congrArg nI (hFx.2.2.2.2.2 1 (by decide)).symm)).symm, ⟨_, hMo, hA.scr2 (fun k hk => hFx.2.1 k (by omega)) hFx.1⟩, rfl, hag⟩)
          · have hsw : a1 = nI 10 := by rw [hke, hk0]
            refine g_top (y := nI 10) hsw ?_
            refine lv_tableIn (tgt := 222) (off := 114) hx hb dX8_count_108 (by decide) (by decide) (by decide) (by decide) ?_
            refine lv_aload_n hx hb dX8_count_222 rfl (lv_at hl 0 rfl) ?_
            refine lv_iload_n hx hb dX8_count_223 rfl (lv_at hl 1 rfl) ?_
            refine g_top (y := (nI 10)) hsw ?_
            refine lv_bipush (v := (nI 8)) hx hb dX8_count_224 (by decide) ?_
            refine lv_isub hx hb dX8_count_226 ?_
            refine g_top (pk_sub (by omega : 8 ≤ 10)) ?_
            refine g_runV (As := [.int (nI (10 - 8))]) (rest := []) (own := RX8) (C := RX8) (T := TX8) (N := 20) 1 hx hb hml hown hts hK hz hP hL hS hlo hl.1 (c_X8_faultsOf l mo B_1 (poG (gF S) (sB S) 0 0) (10 - 8) τ_1 sz hMo hFx.2.2.2.1 (by omega)) gX8_count_X8_faultsOf rfl rfl rfl (by decide +kernel) ⟨Nat.le_of_ble_eq_true rfl, Nat.le_of_ble_eq_true rfl⟩ hMo.c0 rfl rfl rfl (Nat.le_of_ble_eq_true rfl) dX8_count_227 ⟨Nat.le_of_ble_eq_true rfl, Nat.le_of_ble_eq_true rfl⟩ (g_ki0 (fun H locs hz hP hL hS => ?_))
            exact g_iret (z := sz) hx hb hr hlk hz hP hL hS dX8_count_230 (gxi_i ⟨by unfold t_count; rw [if_neg (by rw [hsw]; decide), if_neg (by rw [hsw]; decide), if_neg (by rw [hsw]; decide), if_neg (by rw [hsw]; decide), if_neg (by rw [hsw]; decide), if_neg (by rw [hsw]; decide), if_neg (by rw [hsw]; decide), if_neg (by rw [hsw]; decide), if_neg (by rw [hsw]; decide), if_neg (by rw [hsw]; decide), if_pos hsw]; exact ((csu_1 hN (q := 2) (by decide)).trans (congrArg nI (hFx.2.2.2.2.2 2 (by decide)).symm)).symm, ⟨_, hMo, hA.scr2 (fun k hk => hFx.2.1 k (by omega)) hFx.1⟩, rfl, hag⟩)
          · have hsw : a1 = nI 11 := by rw [hke, hk0]
            refine g_top (y := nI 11) hsw ?_
            refine lv_tableIn (tgt := 222) (off := 114) hx hb dX8_count_108 (by decide) (by decide) (by decide) (by decide) ?_
            refine lv_aload_n hx hb dX8_count_222 rfl (lv_at hl 0 rfl) ?_
            refine lv_iload_n hx hb dX8_count_223 rfl (lv_at hl 1 rfl) ?_
            refine g_top (y := (nI 11)) hsw ?_
            refine lv_bipush (v := (nI 8)) hx hb dX8_count_224 (by decide) ?_
            refine lv_isub hx hb dX8_count_226 ?_
            refine g_top (pk_sub (by omega : 8 ≤ 11)) ?_
            refine g_runV (As := [.int (nI (11 - 8))]) (rest := []) (own := RX8) (C := RX8) (T := TX8) (N := 20) 1 hx hb hml hown hts hK hz hP hL hS hlo hl.1 (c_X8_faultsOf l mo B_1 (poG (gF S) (sB S) 0 0) (11 - 8) τ_1 sz hMo hFx.2.2.2.1 (by omega)) gX8_count_X8_faultsOf rfl rfl rfl (by decide +kernel) ⟨Nat.le_of_ble_eq_true rfl, Nat.le_of_ble_eq_true rfl⟩ hMo.c0 rfl rfl rfl (Nat.le_of_ble_eq_true rfl) dX8_count_227 ⟨Nat.le_of_ble_eq_true rfl, Nat.le_of_ble_eq_true rfl⟩ (g_ki0 (fun H locs hz hP hL hS => ?_))
            exact g_iret (z := sz) hx hb hr hlk hz hP hL hS dX8_count_230 (gxi_i ⟨by unfold t_count; rw [if_neg (by rw [hsw]; decide), if_neg (by rw [hsw]; decide), if_neg (by rw [hsw]; decide), if_neg (by rw [hsw]; decide), if_neg (by rw [hsw]; decide), if_neg (by rw [hsw]; decide), if_neg (by rw [hsw]; decide), if_neg (by rw [hsw]; decide), if_neg (by rw [hsw]; decide), if_neg (by rw [hsw]; decide), if_neg (by rw [hsw]; decide), if_pos hsw]; exact ((csu_1 hN (q := 3) (by decide)).trans (congrArg nI (hFx.2.2.2.2.2 3 (by decide)).symm)).symm, ⟨_, hMo, hA.scr2 (fun k hk => hFx.2.1 k (by omega)) hFx.1⟩, rfl, hag⟩)
          · have hsw : a1 = nI 12 := by rw [hke, hk0]
            refine g_top (y := nI 12) hsw ?_
            refine lv_tableIn (tgt := 231) (off := 123) hx hb dX8_count_108 (by decide) (by decide) (by decide) (by decide) ?_
            refine lv_aload_n hx hb dX8_count_231 rfl (lv_at hl 0 rfl) ?_
            refine g_get (C := RX8) (T := TX8) (N := 20) hx hb hts hown hK hP hMo.c0 nX8_count_X8 rfl 0 (by decide) (by decide +kernel) rfl (v := .ref (mo + 1)) rfl dX8_count_232 ?_
            refine lv_iconst (v := (nI 3)) hx hb dX8_count_235 (by decide) ?_
            refine g_iald hx hb hK hP hMo.c1 (i := nI 3) (vp_in_nI (by omega) (by omega)) dX8_count_236 ?_
            rw [nI_clamp (n := 3) (by omega)]
            exact g_iret (z := sz) hx hb hr hlk hz hP hL hS dX8_count_237 (gxi_i ⟨by unfold t_count; rw [if_neg (by rw [hsw]; decide), if_neg (by rw [hsw]; decide), if_neg (by rw [hsw]; decide), if_neg (by rw [hsw]; decide), if_neg (by rw [hsw]; decide), if_neg (by rw [hsw]; decide), if_neg (by rw [hsw]; decide), if_neg (by rw [hsw]; decide), if_neg (by rw [hsw]; decide), if_neg (by rw [hsw]; decide), if_neg (by rw [hsw]; decide), if_neg (by rw [hsw]; decide), if_pos hsw]; exact hR.r3, ⟨_, hMo, hA.scr2 (fun k hk => hFx.2.1 k (by omega)) hFx.1⟩, rfl, hag⟩)
          · have hsw : a1 = nI 13 := by rw [hke, hk0]
            refine g_top (y := nI 13) hsw ?_
            refine lv_tableIn (tgt := 238) (off := 130) hx hb dX8_count_108 (by decide) (by decide) (by decide) (by decide) ?_
            refine lv_iload hx hb dX8_count_238 (lv_at hl 4 rfl) ?_
            exact g_iret (z := sz) hx hb hr hlk hz hP hL hS dX8_count_240 (gxi_i ⟨by unfold t_count; rw [if_neg (by rw [hsw]; decide), if_neg (by rw [hsw]; decide), if_neg (by rw [hsw]; decide), if_neg (by rw [hsw]; decide), if_neg (by rw [hsw]; decide), if_neg (by rw [hsw]; decide), if_neg (by rw [hsw]; decide), if_neg (by rw [hsw]; decide), if_neg (by rw [hsw]; decide), if_neg (by rw [hsw]; decide), if_neg (by rw [hsw]; decide), if_neg (by rw [hsw]; decide), if_neg (by rw [hsw]; decide), if_pos hsw, show sB S = k by omega], ⟨_, hMo, hA.scr2 (fun k hk => hFx.2.1 k (by omega)) hFx.1⟩, rfl, hag⟩)
          · have hsw : a1 = nI 14 := by rw [hke, hk0]
            refine g_top (y := nI 14) hsw ?_
            refine lv_tableIn (tgt := 241) (off := 133) hx hb dX8_count_108 (by decide) (by decide) (by decide) (by decide) ?_
            refine lv_aload_n hx hb dX8_count_241 rfl (lv_at hl 0 rfl) ?_
            refine g_get (C := RX8) (T := TX8) (N := 20) hx hb hts hown hK hP hMo.c0 nX8_count_X8 rfl 3 (by decide) (by decide +kernel) rfl (v := .int (nI (tN B_1 0))) rfl dX8_count_242 ?_
            exact g_iret (z := sz) hx hb hr hlk hz hP hL hS dX8_count_245 (gxi_i ⟨by unfold t_count; rw [if_neg (by rw [hsw]; decide), if_neg (by rw [hsw]; decide), if_neg (by rw [hsw]; decide), if_neg (by rw [hsw]; decide), if_neg (by rw [hsw]; decide), if_neg (by rw [hsw]; decide), if_neg (by rw [hsw]; decide), if_neg (by rw [hsw]; decide), if_neg (by rw [hsw]; decide), if_neg (by rw [hsw]; decide), if_neg (by rw [hsw]; decide), if_neg (by rw [hsw]; decide), if_neg (by rw [hsw]; decide), if_neg (by rw [hsw]; decide), if_pos hsw]; exact congrArg nI ((hFx.2.1 0 (by decide)).trans hP0), ⟨_, hMo, hA.scr2 (fun k hk => hFx.2.1 k (by omega)) hFx.1⟩, rfl, hag⟩)
          · have hsw : a1 = nI 15 := by rw [hke, hk0]
            refine g_top (y := nI 15) hsw ?_
            refine lv_tableIn (tgt := 246) (off := 138) hx hb dX8_count_108 (by decide) (by decide) (by decide) (by decide) ?_
            refine lv_aload_n hx hb dX8_count_246 rfl (lv_at hl 0 rfl) ?_
            refine g_get (C := RX8) (T := TX8) (N := 20) hx hb hts hown hK hP hMo.c0 nX8_count_X8 rfl 6 (by decide) (by decide +kernel) rfl (v := .int (nI (tN B_1 1))) rfl dX8_count_247 ?_
            exact g_iret (z := sz) hx hb hr hlk hz hP hL hS dX8_count_250 (gxi_i ⟨by unfold t_count; rw [if_neg (by rw [hsw]; decide), if_neg (by rw [hsw]; decide), if_neg (by rw [hsw]; decide), if_neg (by rw [hsw]; decide), if_neg (by rw [hsw]; decide), if_neg (by rw [hsw]; decide), if_neg (by rw [hsw]; decide), if_neg (by rw [hsw]; decide), if_neg (by rw [hsw]; decide), if_neg (by rw [hsw]; decide), if_neg (by rw [hsw]; decide), if_neg (by rw [hsw]; decide), if_neg (by rw [hsw]; decide), if_neg (by rw [hsw]; decide), if_neg (by rw [hsw]; decide), if_pos hsw]; exact congrArg nI ((hFx.2.1 1 (by decide)).trans htn0), ⟨_, hMo, hA.scr2 (fun k hk => hFx.2.1 k (by omega)) hFx.1⟩, rfl, hag⟩)
        · refine lv_tableOut (tgt := 251) hx hb dX8_count_108 (ts_out (by decide) (by decide) hout108) (by decide) ?_
          refine lv_bipush (v := (-2)) hx hb dX8_count_251 (by decide) ?_
          exact g_iret (z := sz) hx hb hr hlk hz hP hL hS dX8_count_253 (gxi_i ⟨by unfold t_count; rw [if_neg (fun q => hout108 (by rw [q]; decide)), if_neg (fun q => hout108 (by rw [q]; decide)), if_neg (fun q => hout108 (by rw [q]; decide)), if_neg (fun q => hout108 (by rw [q]; decide)), if_neg (fun q => hout108 (by rw [q]; decide)), if_neg (fun q => hout108 (by rw [q]; decide)), if_neg (fun q => hout108 (by rw [q]; decide)), if_neg (fun q => hout108 (by rw [q]; decide)), if_neg (fun q => hout108 (by rw [q]; decide)), if_neg (fun q => hout108 (by rw [q]; decide)), if_neg (fun q => hout108 (by rw [q]; decide)), if_neg (fun q => hout108 (by rw [q]; decide)), if_neg (fun q => hout108 (by rw [q]; decide)), if_neg (fun q => hout108 (by rw [q]; decide)), if_neg (fun q => hout108 (by rw [q]; decide)), if_neg (fun q => hout108 (by rw [q]; decide))], ⟨_, hMo, hA.scr2 (fun k hk => hFx.2.1 k (by omega)) hFx.1⟩, rfl, hag⟩)
      · refine lv_iload_n hx hb dX8_count_23 rfl (lv_at hl 2 rfl) ?_
        refine lv_aload_n hx hb dX8_count_24 rfl (lv_at hl 0 rfl) ?_
        refine lv_iload hx hb dX8_count_25 (lv_at hl 5 rfl) ?_
        refine g_runV (As := [.int (nI k)]) (rest := [.int (nI (cntF (fun b => restB S b) k))]) (own := RX8) (C := RX8) (T := TX8) (N := 20) 1 hx hb hml hown hts hK hz hP hL hS hlo hl.1 (c_X8_isRest l mo B_1 S k τ_1 sz hMo hR (by omega) (by omega)) gX8_count_X8_isRest rfl rfl rfl (by decide +kernel) ⟨Nat.le_of_ble_eq_true rfl, Nat.le_of_ble_eq_true rfl⟩ hMo.c0 rfl rfl rfl (Nat.le_of_ble_eq_true rfl) dX8_count_27 ⟨Nat.le_of_ble_eq_true rfl, Nat.le_of_ble_eq_true rfl⟩ (g_ki0 (fun H locs hz hP hL hS => ?_))
        refine g_ifb_eq (tgt := 37) hx hb dX8_count_30 (by decide) (fun c30 => ?_) (fun c30 => ?_)
        · refine lv_iconst (v := (nI 0)) hx hb dX8_count_37 (by decide) ?_
          refine lv_iadd hx hb dX8_count_38 ?_
          refine g_top (nI_add (cntF (fun b => restB S b) k) 0) ?_
          refine g_top (y := (nI (cntF (fun b => restB S b) (k + 1)))) (congrArg nI (cntF_f (p := fun b => restB S b) c30).symm) ?_
          refine lv_istore_n (lv' := [(2, .int (nI (cntF (fun b => restB S b) (k + 1)))), (0, .ref mo), (1, .int a1), (3, .int (nI (cntF (fun b => decide (firstI S b = nI b)) k))), (4, .int (nI (lonF S k))), (5, .int (nI k))]) hx hb dX8_count_39 rfl hl (by decide) rfl (fun ls hl => ?_)
          refine lv_iload_n hx hb dX8_count_40 rfl (lv_at hl 3 rfl) ?_
          refine lv_aload_n hx hb dX8_count_41 rfl (lv_at hl 1 rfl) ?_
          refine lv_iload hx hb dX8_count_42 (lv_at hl 5 rfl) ?_
          refine g_runV (As := [.int (nI k)]) (rest := [.int (nI (cntF (fun b => decide (firstI S b = nI b)) k))]) (own := RX8) (C := RX8) (T := TX8) (N := 20) 1 hx hb hml hown hts hK hz hP hL hS hlo hl.1 (c_X8_firstOf l mo B_1 S k τ_1 sz hMo hR (by omega) (by omega)) gX8_count_X8_firstOf rfl rfl rfl (by decide +kernel) ⟨Nat.le_of_ble_eq_true rfl, Nat.le_of_ble_eq_true rfl⟩ hMo.c0 rfl rfl rfl (Nat.le_of_ble_eq_true rfl) dX8_count_44 ⟨Nat.le_of_ble_eq_true rfl, Nat.le_of_ble_eq_true rfl⟩ (g_ki0 (fun H locs hz hP hL hS => ?_))
          refine lv_iload hx hb dX8_count_47 (lv_at hl 5 rfl) ?_
          refine lv_icmp_ne (tgt := 56) hx hb dX8_count_49 (by decide) (fun c49 => ?_) (fun c49 => ?_)
          · refine lv_iconst (v := (nI 0)) hx hb dX8_count_56 (by decide) ?_
            refine lv_iadd hx hb dX8_count_57 ?_
            refine g_top (nI_add (cntF (fun b => decide (firstI S b = nI b)) k) 0) ?_
            refine g_top (y := (nI (cntF (fun b => decide (firstI S b = nI b)) (k + 1)))) (congrArg nI (cntF_f (p := fun b => decide (firstI S b = nI b)) (decide_eq_false c49)).symm) ?_
            refine lv_istore_n (lv' := [(3, .int (nI (cntF (fun b => decide (firstI S b = nI b)) (k + 1)))), (2, .int (nI (cntF (fun b => restB S b) (k + 1)))), (0, .ref mo), (1, .int a1), (4, .int (nI (lonF S k))), (5, .int (nI k))]) hx hb dX8_count_58 rfl hl (by decide) rfl (fun ls hl => ?_)
            refine lv_aload_n hx hb dX8_count_59 rfl (lv_at hl 2 rfl) ?_
            refine lv_iload hx hb dX8_count_60 (lv_at hl 5 rfl) ?_
            refine g_runV (As := [.int (nI k)]) (rest := []) (own := RX8) (C := RX8) (T := TX8) (N := 20) 1 hx hb hml hown hts hK hz hP hL hS hlo hl.1 (c_X8_isRest l mo B_1 S k τ_1 sz hMo hR (by omega) (by omega)) gX8_count_X8_isRest rfl rfl rfl (by decide +kernel) ⟨Nat.le_of_ble_eq_true rfl, Nat.le_of_ble_eq_true rfl⟩ hMo.c0 rfl rfl rfl (Nat.le_of_ble_eq_true rfl) dX8_count_62 ⟨Nat.le_of_ble_eq_true rfl, Nat.le_of_ble_eq_true rfl⟩ (g_ki0 (fun H locs hz hP hL hS => ?_))
            refine g_ifb_eq (tgt := 72) hx hb dX8_count_65 (by decide) (fun c65 => ?_) (fun c65 => ?_)
            · refine lv_iload hx hb dX8_count_72 (lv_at hl 5 rfl) ?_
              refine lv_aload_n hx hb dX8_count_74 rfl (lv_at hl 2 rfl) ?_
              refine lv_iload hx hb dX8_count_75 (lv_at hl 5 rfl) ?_
              refine g_runV (As := [.int (nI k)]) (rest := [.int (nI k)]) (own := RX8) (C := RX8) (T := TX8) (N := 20) 1 hx hb hml hown hts hK hz hP hL hS hlo hl.1 (c_X8_firstOf l mo B_1 S k τ_1 sz hMo hR (by omega) (by omega)) gX8_count_X8_firstOf rfl rfl rfl (by decide +kernel) ⟨Nat.le_of_ble_eq_true rfl, Nat.le_of_ble_eq_true rfl⟩ hMo.c0 rfl rfl rfl (Nat.le_of_ble_eq_true rfl) dX8_count_77 ⟨Nat.le_of_ble_eq_true rfl, Nat.le_of_ble_eq_true rfl⟩ (g_ki0 (fun H locs hz hP hL hS => ?_))
              have hsy := sylF_le S k
              refine g_top (y := (nI (sylF S k))) (firstI_n c65) ?_
              refine lv_isub hx hb dX8_count_80 ?_
              refine g_top (pk_sub (by omega : sylF S k ≤ k)) ?_
              refine lv_iconst (v := (nI 1)) hx hb dX8_count_81 (by decide) ?_
              refine lv_iadd hx hb dX8_count_82 ?_
              refine g_top (nI_add (k - (sylF S k)) 1) ?_
              refine lv_istore (lv' := [(6, .int (nI ((k - (sylF S k)) + 1))), (3, .int (nI (cntF (fun b => decide (firstI S b = nI b)) (k + 1)))), (2, .int (nI (cntF (fun b => restB S b) (k + 1)))), (0, .ref mo), (1, .int a1), (4, .int (nI (lonF S k))), (5, .int (nI k))]) hx hb dX8_count_83 hl (by decide) rfl (fun ls hl => ?_)
              refine lv_iload hx hb dX8_count_85 (lv_at hl 0 rfl) ?_
              refine lv_iload hx hb dX8_count_87 (lv_at hl 5 rfl) ?_
              refine g_icmp_le (tgt := 97) (a := (k - (sylF S k)) + 1) (b := lonF S k) hx hb (by omega) (by omega) dX8_count_89 (by decide) (fun c89 => ?_) (fun c89 => ?_)
              · refine lv_iload hx hb dX8_count_97 (lv_at hl 5 rfl) ?_
                refine g_top (y := (nI (lonF S (k + 1)))) (congrArg nI (by rw [lonF, if_neg (nb c65)]; omega)) ?_
                refine lv_istore (lv' := [(4, .int (nI (lonF S (k + 1)))), (6, .int (nI ((k - (sylF S k)) + 1))), (3, .int (nI (cntF (fun b => decide (firstI S b = nI b)) (k + 1)))), (2, .int (nI (cntF (fun b => restB S b) (k + 1)))), (0, .ref mo), (1, .int a1), (5, .int (nI k))]) hx hb dX8_count_99 hl (by decide) rfl (fun ls hl => ?_)
                refine lv_iinc (v := (nI (k + 1))) (lv' := [(5, .int (nI (k + 1))), (4, .int (nI (lonF S (k + 1)))), (6, .int (nI ((k - (sylF S k)) + 1))), (3, .int (nI (cntF (fun b => decide (firstI S b = nI b)) (k + 1)))), (2, .int (nI (cntF (fun b => restB S b) (k + 1)))), (0, .ref mo), (1, .int a1)]) hx hb dX8_count_101 hl (k := 6) rfl (g_inc k 1) (by decide) rfl (fun ls hl => ?_)
                refine lv_goto (tgt := 14) hx hb dX8_count_104 (by decide) ?_
                exact ih_lp (k + 1) (by omega) (by omega) H locs ls hz hP hS (lv_sub hl [5, 6, 4, 3, 1, 0] rfl)
              · refine lv_iload hx hb dX8_count_92 (lv_at hl 0 rfl) ?_
                refine lv_goto (tgt := 99) hx hb dX8_count_94 (by decide) ?_
                refine g_top (y := (nI (lonF S (k + 1)))) (congrArg nI (by rw [lonF, if_neg (nb c65)]; omega)) ?_
                refine lv_istore (lv' := [(4, .int (nI (lonF S (k + 1)))), (6, .int (nI ((k - (sylF S k)) + 1))), (3, .int (nI (cntF (fun b => decide (firstI S b = nI b)) (k + 1)))), (2, .int (nI (cntF (fun b => restB S b) (k + 1)))), (0, .ref mo), (1, .int a1), (5, .int (nI k))]) hx hb dX8_count_99 hl (by decide) rfl (fun ls hl => ?_)
                refine lv_iinc (v := (nI (k + 1))) (lv' := [(5, .int (nI (k + 1))), (4, .int (nI (lonF S (k + 1)))), (6, .int (nI ((k - (sylF S k)) + 1))), (3, .int (nI (cntF (fun b => decide (firstI S b = nI b)) (k + 1)))), (2, .int (nI (cntF (fun b => restB S b) (k + 1)))), (0, .ref mo), (1, .int a1)]) hx hb dX8_count_101 hl (k := 6) rfl (g_inc k 1) (by decide) rfl (fun ls hl => ?_)
                refine lv_goto (tgt := 14) hx hb dX8_count_104 (by decide) ?_
                exact ih_lp (k + 1) (by omega) (by omega) H locs ls hz hP hS (lv_sub hl [5, 6, 4, 3, 1, 0] rfl)
            · refine lv_iconst (v := (nI 0)) hx hb dX8_count_68 (by decide) ?_
              refine lv_goto (tgt := 83) hx hb dX8_count_69 (by decide) ?_
              refine lv_istore (lv' := [(6, .int (nI 0)), (3, .int (nI (cntF (fun b => decide (firstI S b = nI b)) (k + 1)))), (2, .int (nI (cntF (fun b => restB S b) (k + 1)))), (0, .ref mo), (1, .int a1), (4, .int (nI (lonF S k))), (5, .int (nI k))]) hx hb dX8_count_83 hl (by decide) rfl (fun ls hl => ?_)
              refine lv_iload hx hb dX8_count_85 (lv_at hl 0 rfl) ?_
              refine lv_iload hx hb dX8_count_87 (lv_at hl 5 rfl) ?_
              refine g_icmp_le (tgt := 97) (a := 0) (b := lonF S k) hx hb (by omega) (by omega) dX8_count_89 (by decide) (fun c89 => ?_) (fun c89 => ?_)
              · refine lv_iload hx hb dX8_count_97 (lv_at hl 5 rfl) ?_
                refine g_top (y := (nI (lonF S (k + 1)))) (congrArg nI (by rw [lonF, if_pos c65])) ?_
                refine lv_istore (lv' := [(4, .int (nI (lonF S (k + 1)))), (6, .int (nI 0)), (3, .int (nI (cntF (fun b => decide (firstI S b = nI b)) (k + 1)))), (2, .int (nI (cntF (fun b => restB S b) (k + 1)))), (0, .ref mo), (1, .int a1), (5, .int (nI k))]) hx hb dX8_count_99 hl (by decide) rfl (fun ls hl => ?_)
                refine lv_iinc (v := (nI (k + 1))) (lv' := [(5, .int (nI (k + 1))), (4, .int (nI (lonF S (k + 1)))), (6, .int (nI 0)), (3, .int (nI (cntF (fun b => decide (firstI S b = nI b)) (k + 1)))), (2, .int (nI (cntF (fun b => restB S b) (k + 1)))), (0, .ref mo), (1, .int a1)]) hx hb dX8_count_101 hl (k := 6) rfl (g_inc k 1) (by decide) rfl (fun ls hl => ?_)
                refine lv_goto (tgt := 14) hx hb dX8_count_104 (by decide) ?_
                exact ih_lp (k + 1) (by omega) (by omega) H locs ls hz hP hS (lv_sub hl [5, 6, 4, 3, 1, 0] rfl)
              · refine lv_iload hx hb dX8_count_92 (lv_at hl 0 rfl) ?_
                refine lv_goto (tgt := 99) hx hb dX8_count_94 (by decide) ?_
                refine g_top (y := (nI (lonF S (k + 1)))) (absurd c89 (Nat.not_lt_zero _)) ?_
                refine lv_istore (lv' := [(4, .int (nI (lonF S (k + 1)))), (6, .int (nI 0)), (3, .int (nI (cntF (fun b => decide (firstI S b = nI b)) (k + 1)))), (2, .int (nI (cntF (fun b => restB S b) (k + 1)))), (0, .ref mo), (1, .int a1), (5, .int (nI k))]) hx hb dX8_count_99 hl (by decide) rfl (fun ls hl => ?_)
                refine lv_iinc (v := (nI (k + 1))) (lv' := [(5, .int (nI (k + 1))), (4, .int (nI (lonF S (k + 1)))), (6, .int (nI 0)), (3, .int (nI (cntF (fun b => decide (firstI S b = nI b)) (k + 1)))), (2, .int (nI (cntF (fun b => restB S b) (k + 1)))), (0, .ref mo), (1, .int a1)]) hx hb dX8_count_101 hl (k := 6) rfl (g_inc k 1) (by decide) rfl (fun ls hl => ?_)
                refine lv_goto (tgt := 14) hx hb dX8_count_104 (by decide) ?_
                exact ih_lp (k + 1) (by omega) (by omega) H locs ls hz hP hS (lv_sub hl [5, 6, 4, 3, 1, 0] rfl)
          · refine lv_iconst (v := (nI 1)) hx hb dX8_count_52 (by decide) ?_
            refine lv_goto (tgt := 57) hx hb dX8_count_53 (by decide) ?_
            refine lv_iadd hx hb dX8_count_57 ?_
            refine g_top (nI_add (cntF (fun b => decide (firstI S b = nI b)) k) 1) ?_
            refine g_top (y := (nI (cntF (fun b => decide (firstI S b = nI b)) (k + 1)))) (congrArg nI (cntF_t (p := fun b => decide (firstI S b = nI b)) (decide_eq_true c49)).symm) ?_
            refine lv_istore_n (lv' := [(3, .int (nI (cntF (fun b => decide (firstI S b = nI b)) (k + 1)))), (2, .int (nI (cntF (fun b => restB S b) (k + 1)))), (0, .ref mo), (1, .int a1), (4, .int (nI (lonF S k))), (5, .int (nI k))]) hx hb dX8_count_58 rfl hl (by decide) rfl (fun ls hl => ?_)
            refine lv_aload_n hx hb dX8_count_59 rfl (lv_at hl 2 rfl) ?_
            refine lv_iload hx hb dX8_count_60 (lv_at hl 5 rfl) ?_
            refine g_runV (As := [.int (nI k)]) (rest := []) (own := RX8) (C := RX8) (T := TX8) (N := 20) 1 hx hb hml hown hts hK hz hP hL hS hlo hl.1 (c_X8_isRest l mo B_1 S k τ_1 sz hMo hR (by omega) (by omega)) gX8_count_X8_isRest rfl rfl rfl (by decide +kernel) ⟨Nat.le_of_ble_eq_true rfl, Nat.le_of_ble_eq_true rfl⟩ hMo.c0 rfl rfl rfl (Nat.le_of_ble_eq_true rfl) dX8_count_62 ⟨Nat.le_of_ble_eq_true rfl, Nat.le_of_ble_eq_true rfl⟩ (g_ki0 (fun H locs hz hP hL hS => ?_))
            refine g_ifb_eq (tgt := 72) hx hb dX8_count_65 (by decide) (fun c65 => ?_) (fun c65 => ?_)
            · refine lv_iload hx hb dX8_count_72 (lv_at hl 5 rfl) ?_
              refine lv_aload_n hx hb dX8_count_74 rfl (lv_at hl 2 rfl) ?_
              refine lv_iload hx hb dX8_count_75 (lv_at hl 5 rfl) ?_
              refine g_runV (As := [.int (nI k)]) (rest := [.int (nI k)]) (own := RX8) (C := RX8) (T := TX8) (N := 20) 1 hx hb hml hown hts hK hz hP hL hS hlo hl.1 (c_X8_firstOf l mo B_1 S k τ_1 sz hMo hR (by omega) (by omega)) gX8_count_X8_firstOf rfl rfl rfl (by decide +kernel) ⟨Nat.le_of_ble_eq_true rfl, Nat.le_of_ble_eq_true rfl⟩ hMo.c0 rfl rfl rfl (Nat.le_of_ble_eq_true rfl) dX8_count_77 ⟨Nat.le_of_ble_eq_true rfl, Nat.le_of_ble_eq_true rfl⟩ (g_ki0 (fun H locs hz hP hL hS => ?_))
              have hsy := sylF_le S k
              refine g_top (y := (nI (sylF S k))) (firstI_n c65) ?_
              refine lv_isub hx hb dX8_count_80 ?_
              refine g_top (pk_sub (by omega : sylF S k ≤ k)) ?_
              refine lv_iconst (v := (nI 1)) hx hb dX8_count_81 (by decide) ?_
              refine lv_iadd hx hb dX8_count_82 ?_
              refine g_top (nI_add (k - (sylF S k)) 1) ?_
              refine lv_istore (lv' := [(6, .int (nI ((k - (sylF S k)) + 1))), (3, .int (nI (cntF (fun b => decide (firstI S b = nI b)) (k + 1)))), (2, .int (nI (cntF (fun b => restB S b) (k + 1)))), (0, .ref mo), (1, .int a1), (4, .int (nI (lonF S k))), (5, .int (nI k))]) hx hb dX8_count_83 hl (by decide) rfl (fun ls hl => ?_)
              refine lv_iload hx hb dX8_count_85 (lv_at hl 0 rfl) ?_
              refine lv_iload hx hb dX8_count_87 (lv_at hl 5 rfl) ?_
              refine g_icmp_le (tgt := 97) (a := (k - (sylF S k)) + 1) (b := lonF S k) hx hb (by omega) (by omega) dX8_count_89 (by decide) (fun c89 => ?_) (fun c89 => ?_)
              · refine lv_iload hx hb dX8_count_97 (lv_at hl 5 rfl) ?_
                refine g_top (y := (nI (lonF S (k + 1)))) (congrArg nI (by rw [lonF, if_neg (nb c65)]; omega)) ?_
                refine lv_istore (lv' := [(4, .int (nI (lonF S (k + 1)))), (6, .int (nI ((k - (sylF S k)) + 1))), (3, .int (nI (cntF (fun b => decide (firstI S b = nI b)) (k + 1)))), (2, .int (nI (cntF (fun b => restB S b) (k + 1)))), (0, .ref mo), (1, .int a1), (5, .int (nI k))]) hx hb dX8_count_99 hl (by decide) rfl (fun ls hl => ?_)
                refine lv_iinc (v := (nI (k + 1))) (lv' := [(5, .int (nI (k + 1))), (4, .int (nI (lonF S (k + 1)))), (6, .int (nI ((k - (sylF S k)) + 1))), (3, .int (nI (cntF (fun b => decide (firstI S b = nI b)) (k + 1)))), (2, .int (nI (cntF (fun b => restB S b) (k + 1)))), (0, .ref mo), (1, .int a1)]) hx hb dX8_count_101 hl (k := 6) rfl (g_inc k 1) (by decide) rfl (fun ls hl => ?_)
                refine lv_goto (tgt := 14) hx hb dX8_count_104 (by decide) ?_
                exact ih_lp (k + 1) (by omega) (by omega) H locs ls hz hP hS (lv_sub hl [5, 6, 4, 3, 1, 0] rfl)
              · refine lv_iload hx hb dX8_count_92 (lv_at hl 0 rfl) ?_
                refine lv_goto (tgt := 99) hx hb dX8_count_94 (by decide) ?_
                refine g_top (y := (nI (lonF S (k + 1)))) (congrArg nI (by rw [lonF, if_neg (nb c65)]; omega)) ?_
                refine lv_istore (lv' := [(4, .int (nI (lonF S (k + 1)))), (6, .int (nI ((k - (sylF S k)) + 1))), (3, .int (nI (cntF (fun b => decide (firstI S b = nI b)) (k + 1)))), (2, .int (nI (cntF (fun b => restB S b) (k + 1)))), (0, .ref mo), (1, .int a1), (5, .int (nI k))]) hx hb dX8_count_99 hl (by decide) rfl (fun ls hl => ?_)
                refine lv_iinc (v := (nI (k + 1))) (lv' := [(5, .int (nI (k + 1))), (4, .int (nI (lonF S (k + 1)))), (6, .int (nI ((k - (sylF S k)) + 1))), (3, .int (nI (cntF (fun b => decide (firstI S b = nI b)) (k + 1)))), (2, .int (nI (cntF (fun b => restB S b) (k + 1)))), (0, .ref mo), (1, .int a1)]) hx hb dX8_count_101 hl (k := 6) rfl (g_inc k 1) (by decide) rfl (fun ls hl => ?_)
                refine lv_goto (tgt := 14) hx hb dX8_count_104 (by decide) ?_
                exact ih_lp (k + 1) (by omega) (by omega) H locs ls hz hP hS (lv_sub hl [5, 6, 4, 3, 1, 0] rfl)
            · refine lv_iconst (v := (nI 0)) hx hb dX8_count_68 (by decide) ?_
              refine lv_goto (tgt := 83) hx hb dX8_count_69 (by decide) ?_
              refine lv_istore (lv' := [(6, .int (nI 0)), (3, .int (nI (cntF (fun b => decide (firstI S b = nI b)) (k + 1)))), (2, .int (nI (cntF (fun b => restB S b) (k + 1)))), (0, .ref mo), (1, .int a1), (4, .int (nI (lonF S k))), (5, .int (nI k))]) hx hb dX8_count_83 hl (by decide) rfl (fun ls hl => ?_)
              refine lv_iload hx hb dX8_count_85 (lv_at hl 0 rfl) ?_
              refine lv_iload hx hb dX8_count_87 (lv_at hl 5 rfl) ?_
              refine g_icmp_le (tgt := 97) (a := 0) (b := lonF S k) hx hb (by omega) (by omega) dX8_count_89 (by decide) (fun c89 => ?_) (fun c89 => ?_)
              · refine lv_iload hx hb dX8_count_97 (lv_at hl 5 rfl) ?_
                refine g_top (y := (nI (lonF S (k + 1)))) (congrArg nI (by rw [lonF, if_pos c65])) ?_
                refine lv_istore (lv' := [(4, .int (nI (lonF S (k + 1)))), (6, .int (nI 0)), (3, .int (nI (cntF (fun b => decide (firstI S b = nI b)) (k + 1)))), (2, .int (nI (cntF (fun b => restB S b) (k + 1)))), (0, .ref mo), (1, .int a1), (5, .int (nI k))]) hx hb dX8_count_99 hl (by decide) rfl (fun ls hl => ?_)
                refine lv_iinc (v := (nI (k + 1))) (lv' := [(5, .int (nI (k + 1))), (4, .int (nI (lonF S (k + 1)))), (6, .int (nI 0)), (3, .int (nI (cntF (fun b => decide (firstI S b = nI b)) (k + 1)))), (2, .int (nI (cntF (fun b => restB S b) (k + 1)))), (0, .ref mo), (1, .int a1)]) hx hb dX8_count_101 hl (k := 6) rfl (g_inc k 1) (by decide) rfl (fun ls hl => ?_)
                refine lv_goto (tgt := 14) hx hb dX8_count_104 (by decide) ?_
                exact ih_lp (k + 1) (by omega) (by omega) H locs ls hz hP hS (lv_sub hl [5, 6, 4, 3, 1, 0] rfl)
              · refine lv_iload hx hb dX8_count_92 (lv_at hl 0 rfl) ?_
                refine lv_goto (tgt := 99) hx hb dX8_count_94 (by decide) ?_
                refine g_top (y := (nI (lonF S (k + 1)))) (absurd c89 (Nat.not_lt_zero _)) ?_
                refine lv_istore (lv' := [(4, .int (nI (lonF S (k + 1)))), (6, .int (nI 0)), (3, .int (nI (cntF (fun b => decide (firstI S b = nI b)) (k + 1)))), (2, .int (nI (cntF (fun b => restB S b) (k + 1)))), (0, .ref mo), (1, .int a1), (5, .int (nI k))]) hx hb dX8_count_99 hl (by decide) rfl (fun ls hl => ?_)
                refine lv_iinc (v := (nI (k + 1))) (lv' := [(5, .int (nI (k + 1))), (4, .int (nI (lonF S (k + 1)))), (6, .int (nI 0)), (3, .int (nI (cntF (fun b => decide (firstI S b = nI b)) (k + 1)))), (2, .int (nI (cntF (fun b => restB S b) (k + 1)))), (0, .ref mo), (1, .int a1)]) hx hb dX8_count_101 hl (k := 6) rfl (g_inc k 1) (by decide) rfl (fun ls hl => ?_)
                refine lv_goto (tgt := 14) hx hb dX8_count_104 (by decide) ?_
                exact ih_lp (k + 1) (by omega) (by omega) H locs ls hz hP hS (lv_sub hl [5, 6, 4, 3, 1, 0] rfl)
        · refine lv_iconst (v := (nI 1)) hx hb dX8_count_33 (by decide) ?_
          refine lv_goto (tgt := 38) hx hb dX8_count_34 (by decide) ?_
          refine lv_iadd hx hb dX8_count_38 ?_
          refine g_top (nI_add (cntF (fun b => restB S b) k) 1) ?_
          refine g_top (y := (nI (cntF (fun b => restB S b) (k + 1)))) (congrArg nI (cntF_t (p := fun b => restB S b) c30).symm) ?_
          refine lv_istore_n (lv' := [(2, .int (nI (cntF (fun b => restB S b) (k + 1)))), (0, .ref mo), (1, .int a1), (3, .int (nI (cntF (fun b => decide (firstI S b = nI b)) k))), (4, .int (nI (lonF S k))), (5, .int (nI k))]) hx hb dX8_count_39 rfl hl (by decide) rfl (fun ls hl => ?_)
          refine lv_iload_n hx hb dX8_count_40 rfl (lv_at hl 3 rfl) ?_
          refine lv_aload_n hx hb dX8_count_41 rfl (lv_at hl 1 rfl) ?_
          refine lv_iload hx hb dX8_count_42 (lv_at hl 5 rfl) ?_
          refine g_runV (As := [.int (nI k)]) (rest := [.int (nI (cntF (fun b => decide (firstI S b = nI b)) k))]) (own := RX8) (C := RX8) (T := TX8) (N := 20) 1 hx hb hml hown hts hK hz hP hL hS hlo hl.1 (c_X8_firstOf l mo B_1 S k τ_1 sz hMo hR (by omega) (by omega)) gX8_count_X8_firstOf rfl rfl rfl (by decide +kernel) ⟨Nat.le_of_ble_eq_true rfl, Nat.le_of_ble_eq_true rfl⟩ hMo.c0 rfl rfl rfl (Nat.le_of_ble_eq_true rfl) dX8_count_44 ⟨Nat.le_of_ble_eq_true rfl, Nat.le_of_ble_eq_true rfl⟩ (g_ki0 (fun H locs hz hP hL hS => ?_))
          refine lv_iload hx hb dX8_count_47 (lv_at hl 5 rfl) ?_
          refine lv_icmp_ne (tgt := 56) hx hb dX8_count_49 (by decide) (fun c49 => ?_) (fun c49 => ?_)
          · refine lv_iconst (v := (nI 0)) hx hb dX8_count_56 (by decide) ?_
            refine lv_iadd hx hb dX8_count_57 ?_
            refine g_top (nI_add (cntF (fun b => decide (firstI S b = nI b)) k) 0) ?_
            refine g_top (y := (nI (cntF (fun b => decide (firstI S b = nI b)) (k + 1)))) (congrArg nI (cntF_f (p := fun b => decide (firstI S b = nI b)) (decide_eq_false c49)).symm) ?_
            refine lv_istore_n (lv' := [(3, .int (nI (cntF (fun b => decide (firstI S b = nI b)) (k + 1)))), (2, .int (nI (cntF (fun b => restB S b) (k + 1)))), (0, .ref mo), (1, .int a1), (4, .int (nI (lonF S k))), (5, .int (nI k))]) hx hb dX8_count_58 rfl hl (by decide) rfl (fun ls hl => ?_)
            refine lv_aload_n hx hb dX8_count_59 rfl (lv_at hl 2 rfl) ?_
            refine lv_iload hx hb dX8_count_60 (lv_at hl 5 rfl) ?_
            refine g_runV (As := [.int (nI k)]) (rest := []) (own := RX8) (C := RX8) (T := TX8) (N := 20) 1 hx hb hml hown hts hK hz hP hL hS hlo hl.1 (c_X8_isRest l mo B_1 S k τ_1 sz hMo hR (by omega) (by omega)) gX8_count_X8_isRest rfl rfl rfl (by decide +kernel) ⟨Nat.le_of_ble_eq_true rfl, Nat.le_of_ble_eq_true rfl⟩ hMo.c0 rfl rfl rfl (Nat.le_of_ble_eq_true rfl) dX8_count_62 ⟨Nat.le_of_ble_eq_true rfl, Nat.le_of_ble_eq_true rfl⟩ (g_ki0 (fun H locs hz hP hL hS => ?_))
            refine g_ifb_eq (tgt := 72) hx hb dX8_count_65 (by decide) (fun c65 => ?_) (fun c65 => ?_)
            · refine lv_iload hx hb dX8_count_72 (lv_at hl 5 rfl) ?_
              refine lv_aload_n hx hb dX8_count_74 rfl (lv_at hl 2 rfl) ?_
              refine lv_iload hx hb dX8_count_75 (lv_at hl 5 rfl) ?_
              refine g_runV (As := [.int (nI k)]) (rest := [.int (nI k)]) (own := RX8) (C := RX8) (T := TX8) (N := 20) 1 hx hb hml hown hts hK hz hP hL hS hlo hl.1 (c_X8_firstOf l mo B_1 S k τ_1 sz hMo hR (by omega) (by omega)) gX8_count_X8_firstOf rfl rfl rfl (by decide +kernel) ⟨Nat.le_of_ble_eq_true rfl, Nat.le_of_ble_eq_true rfl⟩ hMo.c0 rfl rfl rfl (Nat.le_of_ble_eq_true rfl) dX8_count_77 ⟨Nat.le_of_ble_eq_true rfl, Nat.le_of_ble_eq_true rfl⟩ (g_ki0 (fun H locs hz hP hL hS => ?_))
              have hsy := sylF_le S k
              refine g_top (y := (nI (sylF S k))) (firstI_n c65) ?_
              refine lv_isub hx hb dX8_count_80 ?_
              refine g_top (pk_sub (by omega : sylF S k ≤ k)) ?_
              refine lv_iconst (v := (nI 1)) hx hb dX8_count_81 (by decide) ?_
              refine lv_iadd hx hb dX8_count_82 ?_
              refine g_top (nI_add (k - (sylF S k)) 1) ?_
              refine lv_istore (lv' := [(6, .int (nI ((k - (sylF S k)) + 1))), (3, .int (nI (cntF (fun b => decide (firstI S b = nI b)) (k + 1)))), (2, .int (nI (cntF (fun b => restB S b) (k + 1)))), (0, .ref mo), (1, .int a1), (4, .int (nI (lonF S k))), (5, .int (nI k))]) hx hb dX8_count_83 hl (by decide) rfl (fun ls hl => ?_)
              refine lv_iload hx hb dX8_count_85 (lv_at hl 0 rfl) ?_
              refine lv_iload hx hb dX8_count_87 (lv_at hl 5 rfl) ?_
              refine g_icmp_le (tgt := 97) (a := (k - (sylF S k)) + 1) (b := lonF S k) hx hb (by omega) (by omega) dX8_count_89 (by decide) (fun c89 => ?_) (fun c89 => ?_)
              · refine lv_iload hx hb dX8_count_97 (lv_at hl 5 rfl) ?_
                refine g_top (y := (nI (lonF S (k + 1)))) (congrArg nI (by rw [lonF, if_neg (nb c65)]; omega)) ?_
                refine lv_istore (lv' := [(4, .int (nI (lonF S (k + 1)))), (6, .int (nI ((k - (sylF S k)) + 1))), (3, .int (nI (cntF (fun b => decide (firstI S b = nI b)) (k + 1)))), (2, .int (nI (cntF (fun b => restB S b) (k + 1)))), (0, .ref mo), (1, .int a1), (5, .int (nI k))]) hx hb dX8_count_99 hl (by decide) rfl (fun ls hl => ?_)
                refine lv_iinc (v := (nI (k + 1))) (lv' := [(5, .int (nI (k + 1))), (4, .int (nI (lonF S (k + 1)))), (6, .int (nI ((k - (sylF S k)) + 1))), (3, .int (nI (cntF (fun b => decide (firstI S b = nI b)) (k + 1)))), (2, .int (nI (cntF (fun b => restB S b) (k + 1)))), (0, .ref mo), (1, .int a1)]) hx hb dX8_count_101 hl (k := 6) rfl (g_inc k 1) (by decide) rfl (fun ls hl => ?_)
                refine lv_goto (tgt := 14) hx hb dX8_count_104 (by decide) ?_
                exact ih_lp (k + 1) (by omega) (by omega) H locs ls hz hP hS (lv_sub hl [5, 6, 4, 3, 1, 0] rfl)
              · refine lv_iload hx hb dX8_count_92 (lv_at hl 0 rfl) ?_
                refine lv_goto (tgt := 99) hx hb dX8_count_94 (by decide) ?_
                refine g_top (y := (nI (lonF S (k + 1)))) (congrArg nI (by rw [lonF, if_neg (nb c65)]; omega)) ?_
                refine lv_istore (lv' := [(4, .int (nI (lonF S (k + 1)))), (6, .int (nI ((k - (sylF S k)) + 1))), (3, .int (nI (cntF (fun b => decide (firstI S b = nI b)) (k + 1)))), (2, .int (nI (cntF (fun b => restB S b) (k + 1)))), (0, .ref mo), (1, .int a1), (5, .int (nI k))]) hx hb dX8_count_99 hl (by decide) rfl (fun ls hl => ?_)
                refine lv_iinc (v := (nI (k + 1))) (lv' := [(5, .int (nI (k + 1))), (4, .int (nI (lonF S (k + 1)))), (6, .int (nI ((k - (sylF S k)) + 1))), (3, .int (nI (cntF (fun b => decide (firstI S b = nI b)) (k + 1)))), (2, .int (nI (cntF (fun b => restB S b) (k + 1)))), (0, .ref mo), (1, .int a1)]) hx hb dX8_count_101 hl (k := 6) rfl (g_inc k 1) (by decide) rfl (fun ls hl => ?_)
                refine lv_goto (tgt := 14) hx hb dX8_count_104 (by decide) ?_
                exact ih_lp (k + 1) (by omega) (by omega) H locs ls hz hP hS (lv_sub hl [5, 6, 4, 3, 1, 0] rfl)
            · refine lv_iconst (v := (nI 0)) hx hb dX8_count_68 (by decide) ?_
              refine lv_goto (tgt := 83) hx hb dX8_count_69 (by decide) ?_
              refine lv_istore (lv' := [(6, .int (nI 0)), (3, .int (nI (cntF (fun b => decide (firstI S b = nI b)) (k + 1)))), (2, .int (nI (cntF (fun b => restB S b) (k + 1)))), (0, .ref mo), (1, .int a1), (4, .int (nI (lonF S k))), (5, .int (nI k))]) hx hb dX8_count_83 hl (by decide) rfl (fun ls hl => ?_)
              refine lv_iload hx hb dX8_count_85 (lv_at hl 0 rfl) ?_
              refine lv_iload hx hb dX8_count_87 (lv_at hl 5 rfl) ?_
              refine g_icmp_le (tgt := 97) (a := 0) (b := lonF S k) hx hb (by omega) (by omega) dX8_count_89 (by decide) (fun c89 => ?_) (fun c89 => ?_)
              · refine lv_iload hx hb dX8_count_97 (lv_at hl 5 rfl) ?_
                refine g_top (y := (nI (lonF S (k + 1)))) (congrArg nI (by rw [lonF, if_pos c65])) ?_
                refine lv_istore (lv' := [(4, .int (nI (lonF S (k + 1)))), (6, .int (nI 0)), (3, .int (nI (cntF (fun b => decide (firstI S b = nI b)) (k + 1)))), (2, .int (nI (cntF (fun b => restB S b) (k + 1)))), (0, .ref mo), (1, .int a1), (5, .int (nI k))]) hx hb dX8_count_99 hl (by decide) rfl (fun ls hl => ?_)
                refine lv_iinc (v := (nI (k + 1))) (lv' := [(5, .int (nI (k + 1))), (4, .int (nI (lonF S (k + 1)))), (6, .int (nI 0)), (3, .int (nI (cntF (fun b => decide (firstI S b = nI b)) (k + 1)))), (2, .int (nI (cntF (fun b => restB S b) (k + 1)))), (0, .ref mo), (1, .int a1)]) hx hb dX8_count_101 hl (k := 6) rfl (g_inc k 1) (by decide) rfl (fun ls hl => ?_)
                refine lv_goto (tgt := 14) hx hb dX8_count_104 (by decide) ?_
                exact ih_lp (k + 1) (by omega) (by omega) H locs ls hz hP hS (lv_sub hl [5, 6, 4, 3, 1, 0] rfl)
              · refine lv_iload hx hb dX8_count_92 (lv_at hl 0 rfl) ?_
                refine lv_goto (tgt := 99) hx hb dX8_count_94 (by decide) ?_
                refine g_top (y := (nI (lonF S (k + 1)))) (absurd c89 (Nat.not_lt_zero _)) ?_
                refine lv_istore (lv' := [(4, .int (nI (lonF S (k + 1)))), (6, .int (nI 0)), (3, .int (nI (cntF (fun b => decide (firstI S b = nI b)) (k + 1)))), (2, .int (nI (cntF (fun b => restB S b) (k + 1)))), (0, .ref mo), (1, .int a1), (5, .int (nI k))]) hx hb dX8_count_99 hl (by decide) rfl (fun ls hl => ?_)
                refine lv_iinc (v := (nI (k + 1))) (lv' := [(5, .int (nI (k + 1))), (4, .int (nI (lonF S (k + 1)))), (6, .int (nI 0)), (3, .int (nI (cntF (fun b => decide (firstI S b = nI b)) (k + 1)))), (2, .int (nI (cntF (fun b => restB S b) (k + 1)))), (0, .ref mo), (1, .int a1)]) hx hb dX8_count_101 hl (k := 6) rfl (g_inc k 1) (by decide) rfl (fun ls hl => ?_)
                refine lv_goto (tgt := 14) hx hb dX8_count_104 (by decide) ?_
                exact ih_lp (k + 1) (by omega) (by omega) H locs ls hz hP hS (lv_sub hl [5, 6, 4, 3, 1, 0] rfl)
          · refine lv_iconst (v := (nI 1)) hx hb dX8_count_52 (by decide) ?_
            refine lv_goto (tgt := 57) hx hb dX8_count_53 (by decide) ?_
            refine lv_iadd hx hb dX8_count_57 ?_
            refine g_top (nI_add (cntF (fun b => decide (firstI S b = nI b)) k) 1) ?_
            refine g_top (y := (nI (cntF (fun b => decide (firstI S b = nI b)) (k + 1)))) (congrArg nI (cntF_t (p := fun b => decide (firstI S b = nI b)) (decide_eq_true c49)).symm) ?_
            refine lv_istore_n (lv' := [(3, .int (nI (cntF (fun b => decide (firstI S b = nI b)) (k + 1)))), (2, .int (nI (cntF (fun b => restB S b) (k + 1)))), (0, .ref mo), (1, .int a1), (4, .int (nI (lonF S k))), (5, .int (nI k))]) hx hb dX8_count_58 rfl hl (by decide) rfl (fun ls hl => ?_)
            refine lv_aload_n hx hb dX8_count_59 rfl (lv_at hl 2 rfl) ?_
            refine lv_iload hx hb dX8_count_60 (lv_at hl 5 rfl) ?_
            refine g_runV (As := [.int (nI k)]) (rest := []) (own := RX8) (C := RX8) (T := TX8) (N := 20) 1 hx hb hml hown hts hK hz hP hL hS hlo hl.1 (c_X8_isRest l mo B_1 S k τ_1 sz hMo hR (by omega) (by omega)) gX8_count_X8_isRest rfl rfl rfl (by decide +kernel) ⟨Nat.le_of_ble_eq_true rfl, Nat.le_of_ble_eq_true rfl⟩ hMo.c0 rfl rfl rfl (Nat.le_of_ble_eq_true rfl) dX8_count_62 ⟨Nat.le_of_ble_eq_true rfl, Nat.le_of_ble_eq_true rfl⟩ (g_ki0 (fun H locs hz hP hL hS => ?_))
            refine g_ifb_eq (tgt := 72) hx hb dX8_count_65 (by decide) (fun c65 => ?_) (fun c65 => ?_)
            · refine lv_iload hx hb dX8_count_72 (lv_at hl 5 rfl) ?_
              refine lv_aload_n hx hb dX8_count_74 rfl (lv_at hl 2 rfl) ?_
              refine lv_iload hx hb dX8_count_75 (lv_at hl 5 rfl) ?_
              refine g_runV (As := [.int (nI k)]) (rest := [.int (nI k)]) (own := RX8) (C := RX8) (T := TX8) (N := 20) 1 hx hb hml hown hts hK hz hP hL hS hlo hl.1 (c_X8_firstOf l mo B_1 S k τ_1 sz hMo hR (by omega) (by omega)) gX8_count_X8_firstOf rfl rfl rfl (by decide +kernel) ⟨Nat.le_of_ble_eq_true rfl, Nat.le_of_ble_eq_true rfl⟩ hMo.c0 rfl rfl rfl (Nat.le_of_ble_eq_true rfl) dX8_count_77 ⟨Nat.le_of_ble_eq_true rfl, Nat.le_of_ble_eq_true rfl⟩ (g_ki0 (fun H locs hz hP hL hS => ?_))
              have hsy := sylF_le S k
              refine g_top (y := (nI (sylF S k))) (firstI_n c65) ?_
              refine lv_isub hx hb dX8_count_80 ?_
              refine g_top (pk_sub (by omega : sylF S k ≤ k)) ?_
              refine lv_iconst (v := (nI 1)) hx hb dX8_count_81 (by decide) ?_
              refine lv_iadd hx hb dX8_count_82 ?_
              refine g_top (nI_add (k - (sylF S k)) 1) ?_
              refine lv_istore (lv' := [(6, .int (nI ((k - (sylF S k)) + 1))), (3, .int (nI (cntF (fun b => decide (firstI S b = nI b)) (k + 1)))), (2, .int (nI (cntF (fun b => restB S b) (k + 1)))), (0, .ref mo), (1, .int a1), (4, .int (nI (lonF S k))), (5, .int (nI k))]) hx hb dX8_count_83 hl (by decide) rfl (fun ls hl => ?_)
              refine lv_iload hx hb dX8_count_85 (lv_at hl 0 rfl) ?_
              refine lv_iload hx hb dX8_count_87 (lv_at hl 5 rfl) ?_
              refine g_icmp_le (tgt := 97) (a := (k - (sylF S k)) + 1) (b := lonF S k) hx hb (by omega) (by omega) dX8_count_89 (by decide) (fun c89 => ?_) (fun c89 => ?_)
              · refine lv_iload hx hb dX8_count_97 (lv_at hl 5 rfl) ?_
                refine g_top (y := (nI (lonF S (k + 1)))) (congrArg nI (by rw [lonF, if_neg (nb c65)]; omega)) ?_
                refine lv_istore (lv' := [(4, .int (nI (lonF S (k + 1)))), (6, .int (nI ((k - (sylF S k)) + 1))), (3, .int (nI (cntF (fun b => decide (firstI S b = nI b)) (k + 1)))), (2, .int (nI (cntF (fun b => restB S b) (k + 1)))), (0, .ref mo), (1, .int a1), (5, .int (nI k))]) hx hb dX8_count_99 hl (by decide) rfl (fun ls hl => ?_)
                refine lv_iinc (v := (nI (k + 1))) (lv' := [(5, .int (nI (k + 1))), (4, .int (nI (lonF S (k + 1)))), (6, .int (nI ((k - (sylF S k)) + 1))), (3, .int (nI (cntF (fun b => decide (firstI S b = nI b)) (k + 1)))), (2, .int (nI (cntF (fun b => restB S b) (k + 1)))), (0, .ref mo), (1, .int a1)]) hx hb dX8_count_101 hl (k := 6) rfl (g_inc k 1) (by decide) rfl (fun ls hl => ?_)
                refine lv_goto (tgt := 14) hx hb dX8_count_104 (by decide) ?_
                exact ih_lp (k + 1) (by omega) (by omega) H locs ls hz hP hS (lv_sub hl [5, 6, 4, 3, 1, 0] rfl)
              · refine lv_iload hx hb dX8_count_92 (lv_at hl 0 rfl) ?_
                refine lv_goto (tgt := 99) hx hb dX8_count_94 (by decide) ?_
                refine g_top (y := (nI (lonF S (k + 1)))) (congrArg nI (by rw [lonF, if_neg (nb c65)]; omega)) ?_
                refine lv_istore (lv' := [(4, .int (nI (lonF S (k + 1)))), (6, .int (nI ((k - (sylF S k)) + 1))), (3, .int (nI (cntF (fun b => decide (firstI S b = nI b)) (k + 1)))), (2, .int (nI (cntF (fun b => restB S b) (k + 1)))), (0, .ref mo), (1, .int a1), (5, .int (nI k))]) hx hb dX8_count_99 hl (by decide) rfl (fun ls hl => ?_)
                refine lv_iinc (v := (nI (k + 1))) (lv' := [(5, .int (nI (k + 1))), (4, .int (nI (lonF S (k + 1)))), (6, .int (nI ((k - (sylF S k)) + 1))), (3, .int (nI (cntF (fun b => decide (firstI S b = nI b)) (k + 1)))), (2, .int (nI (cntF (fun b => restB S b) (k + 1)))), (0, .ref mo), (1, .int a1)]) hx hb dX8_count_101 hl (k := 6) rfl (g_inc k 1) (by decide) rfl (fun ls hl => ?_)
                refine lv_goto (tgt := 14) hx hb dX8_count_104 (by decide) ?_
                exact ih_lp (k + 1) (by omega) (by omega) H locs ls hz hP hS (lv_sub hl [5, 6, 4, 3, 1, 0] rfl)
            · refine lv_iconst (v := (nI 0)) hx hb dX8_count_68 (by decide) ?_
              refine lv_goto (tgt := 83) hx hb dX8_count_69 (by decide) ?_
              refine lv_istore (lv' := [(6, .int (nI 0)), (3, .int (nI (cntF (fun b => decide (firstI S b = nI b)) (k + 1)))), (2, .int (nI (cntF (fun b => restB S b) (k + 1)))), (0, .ref mo), (1, .int a1), (4, .int (nI (lonF S k))), (5, .int (nI k))]) hx hb dX8_count_83 hl (by decide) rfl (fun ls hl => ?_)
              refine lv_iload hx hb dX8_count_85 (lv_at hl 0 rfl) ?_
              refine lv_iload hx hb dX8_count_87 (lv_at hl 5 rfl) ?_
              refine g_icmp_le (tgt := 97) (a := 0) (b := lonF S k) hx hb (by omega) (by omega) dX8_count_89 (by decide) (fun c89 => ?_) (fun c89 => ?_)
              · refine lv_iload hx hb dX8_count_97 (lv_at hl 5 rfl) ?_
                refine g_top (y := (nI (lonF S (k + 1)))) (congrArg nI (by rw [lonF, if_pos c65])) ?_
                refine lv_istore (lv' := [(4, .int (nI (lonF S (k + 1)))), (6, .int (nI 0)), (3, .int (nI (cntF (fun b => decide (firstI S b = nI b)) (k + 1)))), (2, .int (nI (cntF (fun b => restB S b) (k + 1)))), (0, .ref mo), (1, .int a1), (5, .int (nI k))]) hx hb dX8_count_99 hl (by decide) rfl (fun ls hl => ?_)
                refine lv_iinc (v := (nI (k + 1))) (lv' := [(5, .int (nI (k + 1))), (4, .int (nI (lonF S (k + 1)))), (6, .int (nI 0)), (3, .int (nI (cntF (fun b => decide (firstI S b = nI b)) (k + 1)))), (2, .int (nI (cntF (fun b => restB S b) (k + 1)))), (0, .ref mo), (1, .int a1)]) hx hb dX8_count_101 hl (k := 6) rfl (g_inc k 1) (by decide) rfl (fun ls hl => ?_)
                refine lv_goto (tgt := 14) hx hb dX8_count_104 (by decide) ?_
                exact ih_lp (k + 1) (by omega) (by omega) H locs ls hz hP hS (lv_sub hl [5, 6, 4, 3, 1, 0] rfl)
              · refine lv_iload hx hb dX8_count_92 (lv_at hl 0 rfl) ?_
                refine lv_goto (tgt := 99) hx hb dX8_count_94 (by decide) ?_
                refine g_top (y := (nI (lonF S (k + 1)))) (absurd c89 (Nat.not_lt_zero _)) ?_
                refine lv_istore (lv' := [(4, .int (nI (lonF S (k + 1)))), (6, .int (nI 0)), (3, .int (nI (cntF (fun b => decide (firstI S b = nI b)) (k + 1)))), (2, .int (nI (cntF (fun b => restB S b) (k + 1)))), (0, .ref mo), (1, .int a1), (5, .int (nI k))]) hx hb dX8_count_99 hl (by decide) rfl (fun ls hl => ?_)
                refine lv_iinc (v := (nI (k + 1))) (lv' := [(5, .int (nI (k + 1))), (4, .int (nI (lonF S (k + 1)))), (6, .int (nI 0)), (3, .int (nI (cntF (fun b => decide (firstI S b = nI b)) (k + 1)))), (2, .int (nI (cntF (fun b => restB S b) (k + 1)))), (0, .ref mo), (1, .int a1)]) hx hb dX8_count_101 hl (k := 6) rfl (g_inc k 1) (by decide) rfl (fun ls hl => ?_)
                refine lv_goto (tgt := 14) hx hb dX8_count_104 (by decide) ?_
                exact ih_lp (k + 1) (by omega) (by omega) H locs ls hz hP hS (lv_sub hl [5, 6, 4, 3, 1, 0] rfl)
  exact lp _ 0 (by omega) (Nat.lt_succ_self _) H locs ls hz hP hS (lv_sub hl [4, 5, 3, 2, 1, 0] rfl)
