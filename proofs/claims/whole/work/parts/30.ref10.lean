/-! who gets the marks of a beat -/
theorem shP_m (S : sS) (m lf : Nat → Int32) (ned g : Int32) : ∀ n, shP (sRow S 2 m) lf ned g n = shP S lf ned g n
  | 0 => rfl
  | n + 1 => by rw [shP, shP, shP_m S m lf ned g n]; rfl
theorem nxtF_m (S : sS) (m lf : Nat → Int32) (ned g : Int32) : nxtF (sRow S 2 m) lf ned g = nxtF S lf ned g := by
  show (shP (sRow S 2 m) lf ned g (sN S)).1 = _
  rw [shP_m]; rfl
theorem neF_m (S : sS) (m : Nat → Int32) : ∀ n a sm ac, neF (sRow S 2 m) n a sm ac = neF S n a sm ac
  | 0, _, _, _ => rfl
  | n + 1, a, sm, ac => by rw [neF, neF, neF_m S m n, neF_m S m n]; rfl
theorem needI_m (S : sS) (m : Nat → Int32) (b : Nat) : needI (sRow S 2 m) b = needI S b := by
  show neF (sRow S 2 m) (sB S - b) b 0 (nI 0) = _
  rw [neF_m]; rfl
theorem canF_m (S : sS) (m lf : Nat → Int32) (g : Int32) (b : Nat) : canF (sRow S 2 m) lf g b = canF S lf g b := rfl
theorem la_m {S A A2 : sS} {m : Nat → Int32} {b : Nat} (h : A2 11 = A 11) : (fun i => laI (sRow S 2 m) A2 i b) = (fun i => laI S A i b) := by
  funext i
  show (if b = 0 then S 3 i else A2 11 (96 * i + b - 1)) = _
  rw [h]; rfl
theorem xor_or {g : Int32} {i : Nat} (hi : i < 32) (h : hasB g i = false) : g ^^^ bitI i = g ||| bitI i := by
  apply hb_ext
  intro s hs
  rw [hb_xor hi hs, hb_or hi hs]
  by_cases c : i = s
  · subst c; rw [h, decide_eq_true (rfl : i = i)]; rfl
  · rw [decide_eq_false c, Bool.xor_false, Bool.or_false]
theorem upd_upd (f : Nat → Int32) (k : Nat) (v w : Int32) : upd (upd f k v) k w = upd f k w := by
  funext j
  simp only [upd]
  split <;> rfl
theorem upd_id {f : Nat → Int32} {k : Nat} {v : Int32} (h : f k = v) : upd f k v = f := by
  funext j
  simp only [upd]
  split
  · subst_vars; rfl
  · rfl
theorem mrk_m (S : sS) (g : Int32) (ix b : Nat) : mrkS (sRow S 2 (upd (S 2) b g)) ix b = sRow S 2 (upd (S 2) b (g ^^^ bitI ix)) := by
  show sRow (sRow S 2 (upd (S 2) b g)) 2 (upd (sRow S 2 (upd (S 2) b g) 2) b (sRow S 2 (upd (S 2) b g) 2 b ^^^ bitI ix)) = _
  rw [sRow_2, sRow_s, upd_s, upd_upd]
theorem shP_has {S : sS} {lf : Nat → Int32} {ned g : Int32} : ∀ {n r : Nat}, (shP S lf ned g n).1 = some r → hasB g r = false
  | 0, r, h => by simp [shP] at h
  | n + 1, r, h => by
    rw [shP] at h
    split at h
    · rename_i c; cases h; exact c.2.1
    · exact shP_has h
theorem mk0_s {A : sS} {k : Nat} {v : Int32} : sRow (sRow A 12 (filF (A 12) 0 k v)) 12 (upd ((sRow A 12 (filF (A 12) 0 k v)) 12) k v) = sRow A 12 (filF (A 12) 0 (k + 1) v) := by
  rw [sRow_2, sRow_s, filF_s (by omega)]
theorem mk_or {f : Nat → Int32} {g : Int32} {ix : Nat} (hm : ∀ i : Nat, i < 12 → f i = bI (hasB g i)) (hix : ix < 12) : ∀ i : Nat, i < 12 → upd f ix (vp_nar .boolean (nI 1)) i = bI (hasB (g ||| bitI ix) i) := fun i hi => by
  rw [hb_or (by omega) (by omega)]
  by_cases c : i = ix
  · subst c; rw [upd_s, decide_eq_true (rfl : i = i), Bool.or_true]; rfl
  · rw [upd_n c, decide_eq_false (Ne.symm c), Bool.or_false]; exact hm i hi
theorem nX8_giveMarks_X8 : ∀ w ∈ wsX80, w ∈ wsX8_giveMarks := by decide +kernel
set_option maxHeartbeats 4000000 in
set_option maxRecDepth 100000 in
theorem c_X8_giveMarks (l : Launch) (mo : Nat) (A S : sS) (b np : Nat) (σ : gS) (sz : Nat) (hMo : MoAt σ mo A) (hR : Rr S (A 1)) (hok : okS S) (hb0 : b < sB S) (hnp : cntF (presB S) (sN S) = np) (hnp2 : np ≤ 12) (hzm : S 2 b = 0) : gM l yX8_giveMarks wsX8_giveMarks ({ frames := 3, cells := 0, slots := 0, locals := 69 } : Room) 0 0 [.ref mo, .int (nI b)] σ sz (gxv (fun τ n => n = sz ∧ (∃ A2 : sS, MoAt τ mo A2 ∧ Rr (sRow S 2 (upd (S 2) b (choF S (fun i => laI S A i b) b np))) (A2 1) ∧ (∀ j : Nat, j ≠ 1 → j ≠ 12 → A2 j = A j)) ∧ gAs (gZo mo 16) σ τ)) := by
  refine gM_of (cc := cX8_giveMarks) (maxL := 5) (ret := none) (by decide) rfl (Nat.le_of_ble_eq_true rfl) ?_
  intro D ka lo hL hlo p e s m below meth c hx hb hr hts hown hml hlk hnm hK H locs ls hz hP hS hl
  have hl : lv_has ls 5 [(0, .ref mo), (1, .int (nI b))] := hl
  have hown : s.vm.findClass RX8 = some m.cls := hown
  have hag : gAs (gZo mo 16) σ σ := gAs.rf
  obtain ⟨hB, hN, hKs, hRs⟩ := id hok
  refine lv_iconst (v := (nI 0)) hx hb dX8_giveMarks_0 (by decide) ?_
  refine lv_istore_n (lv' := [(2, .int (nI 0)), (0, .ref mo), (1, .int (nI b))]) hx hb dX8_giveMarks_1 rfl hl (by decide) rfl (fun ls hl => ?_)
  have lp : ∀ (fu_lp : Nat) (k : Nat), (k ≤ 12) → (12 - k < fu_lp) → ∀ (υ : gS), (MoAt υ mo (sRow A 12 (filF (A 12) 0 k (vp_nar .boolean (nI 0))))) → (gAs (gZo mo 16) σ υ) → gL lo υ → ∀ (H : Heap) (locs : List Loc) (ls : Array Slot), H.size = sz → gH D ka υ H → va_S (gA lo) s.heap H locs → lv_has ls 5 [(0, .ref mo), (1, .int (nI b)), (2, .int (nI k))] → W p l e ({ frames := 3, cells := 0, slots := 0, locals := 69 } : Room) s m ([.ref mo, .int (nI b)] : List Value).toArray below meth c H locs (0) (0) (MQ below (gQ D ka lo (gxv (fun τ n => n = sz ∧ (∃ A2 : sS, MoAt τ mo A2 ∧ Rr (sRow S 2 (upd (S 2) b (choF S (fun i => laI S A i b) b np))) (A2 1) ∧ (∀ j : Nat, j ≠ 1 → j ≠ 12 → A2 j = A j)) ∧ gAs (gZo mo 16) σ τ))) ([.ref mo, .int (nI b)] : List Value).toArray s 0 0 (gA lo)) (F0 m 2 ls []) := by
    intro fu_lp
    induction fu_lp with
    | zero => intro k hk hm_lp; exact absurd hm_lp (Nat.not_lt_zero _)
    | succ fu_lp ih_lp =>
      intro k hk hm_lp υ hMo hag hL H locs ls hz hP hS hl
      refine lv_iload_n hx hb dX8_giveMarks_2 rfl (lv_at hl 2 rfl) ?_
      refine lv_bipush (v := (nI 12)) hx hb dX8_giveMarks_3 (by decide) ?_
      refine g_icmp_ge (tgt := 21) (a := k) (b := 12) hx hb (by omega) (by omega) dX8_giveMarks_5 (by decide) (fun c5 => ?_) (fun c5 => ?_)
      · obtain ⟨A1, hMo, hA1r, hmk⟩ : ∃ A1 : sS, MoAt υ mo A1 ∧ (∀ j : Nat, j ≠ 12 → A1 j = A j) ∧ (∀ i : Nat, i < 12 → A1 12 i = bI (hasB (nI 0) i)) := ⟨_, hMo, fun j hj => sRow_n hj, fun i hi => by rw [sRow_s, filF_in (by omega)]; show _ = bI (hasB 0 i); rw [hb_0]; rfl⟩
        have hR : Rr S (A1 1) := by rw [hA1r 1 (by decide)]; exact hR
        have hl11 : A1 11 = A 11 := hA1r 11 (by decide)
        refine lv_aload_n hx hb dX8_giveMarks_21 rfl (lv_at hl 0 rfl) ?_
        refine g_runV (As := []) (rest := []) (own := RX8) (C := RX8) (T := TX8) (N := 20) 0 hx hb hml hown hts hK hz hP hL hS hlo hl.1 (c_X8_presentOnes l mo A1 S  υ sz hMo hR (by omega)) gX8_giveMarks_X8_presentOnes rfl rfl rfl (by decide +kernel) ⟨Nat.le_of_ble_eq_true rfl, Nat.le_of_ble_eq_true rfl⟩ hMo.c0 rfl rfl rfl (Nat.le_of_ble_eq_true rfl) dX8_giveMarks_22 ⟨Nat.le_of_ble_eq_true rfl, Nat.le_of_ble_eq_true rfl⟩ (g_ki0 (fun H locs hz hP hL hS => ?_))
        refine g_top (y := (nI np)) (congrArg nI hnp) ?_
        refine lv_iconst (v := (nI 2)) hx hb dX8_giveMarks_25 (by decide) ?_
        refine lv_idiv hx hb dX8_giveMarks_26 (by decide) ?_
        refine g_top (pk_div (a := np) (d := 2) (by omega) (by omega) (by omega)) ?_
        refine lv_istore_n (lv' := [(2, .int (nI (np / 2))), (0, .ref mo), (1, .int (nI b))]) hx hb dX8_giveMarks_27 rfl hl (by decide) rfl (fun ls hl => ?_)
        refine lv_iload_n hx hb dX8_giveMarks_28 rfl (lv_at hl 0 rfl) ?_
        refine lv_iconst (v := (nI 1)) hx hb dX8_giveMarks_29 (by decide) ?_
        refine g_icmp_ge (tgt := 37) (a := np / 2) (b := 1) hx hb (by omega) (by omega) dX8_giveMarks_30 (by decide) (fun c30 => ?_) (fun c30 => ?_)
        · refine lv_iload_n hx hb dX8_giveMarks_37 rfl (lv_at hl 0 rfl) ?_
          refine g_top (y := (nI (max 1 (np / 2)))) (congrArg nI (by omega)) ?_
          refine lv_istore_n (lv' := [(3, .int (nI (max 1 (np / 2)))), (2, .int (nI (np / 2))), (0, .ref mo), (1, .int (nI b))]) hx hb dX8_giveMarks_38 rfl hl (by decide) rfl (fun ls hl => ?_)
          have hR : Rr (sRow S 2 (upd (S 2) b (nI 0))) (A1 1) := by rw [upd_id (show S 2 b = nI 0 from hzm), sRow_id]; exact hR
          have hB9 : sB (sRow S 2 (upd (S 2) b (nI 0))) = sB S := rfl
          have hN9 : sN (sRow S 2 (upd (S 2) b (nI 0))) = sN S := rfl
          have hR9 : sR (sRow S 2 (upd (S 2) b (nI 0))) = sR S := rfl
          refine lv_aload_n hx hb dX8_giveMarks_39 rfl (lv_at hl 2 rfl) ?_
          refine lv_iload_n hx hb dX8_giveMarks_40 rfl (lv_at hl 3 rfl) ?_
          refine g_runV (As := [.int (nI b)]) (rest := []) (own := RX8) (C := RX8) (T := TX8) (N := 20) 1 hx hb hml hown hts hK hz hP hL hS hlo hl.1 (c_X8_nextToBreathe l mo A1 (sRow S 2 (upd (S 2) b (nI 0))) (nI 0) b υ sz hMo hR hmk (by omega) (by omega) (by omega) (by omega)) gX8_giveMarks_X8_nextToBreathe rfl rfl rfl (by decide +kernel) ⟨Nat.le_of_ble_eq_true rfl, Nat.le_of_ble_eq_true rfl⟩ hMo.c0 rfl rfl rfl (Nat.le_of_ble_eq_true rfl) dX8_giveMarks_41 ⟨Nat.le_of_ble_eq_true rfl, Nat.le_of_ble_eq_true rfl⟩ (g_ki0 (fun H locs hz hP hL hS => ?_))
          refine g_top (y := (oI (nxtF S (fun i => laI S A i b) (needI S b) (nI 0)))) (congrArg oI (by rw [nxtF_m, needI_m, la_m (A2 := A1) (A := A) hl11])) ?_
          refine lv_istore (lv' := [(4, .int (oI (nxtF S (fun i => laI S A i b) (needI S b) (nI 0)))), (3, .int (nI (max 1 (np / 2)))), (2, .int (nI (np / 2))), (0, .ref mo), (1, .int (nI b))]) hx hb dX8_giveMarks_44 hl (by decide) rfl (fun ls hl => ?_)
          have lq : ∀ (fu_lq : Nat) (t : Nat) (g : Int32), (t ≤ max 1 (np / 2)) → (chzF S (fun i => laI S A i b) (needI S b) b (max 1 (np / 2) - t) g = choF S (fun i => laI S A i b) b np) → (max 1 (np / 2) - t < fu_lq) → ∀ (υ : gS), (∃ A2 : sS, MoAt υ mo A2 ∧ Rr (sRow S 2 (upd (S 2) b g)) (A2 1) ∧ (∀ j : Nat, j ≠ 1 → j ≠ 12 → A2 j = A j) ∧ (∀ i : Nat, i < 12 → A2 12 i = bI (hasB g i))) → (gAs (gZo mo 16) σ υ) → gL lo υ → ∀ (H : Heap) (locs : List Loc) (ls : Array Slot), H.size = sz → gH D ka υ H → va_S (gA lo) s.heap H locs → lv_has ls 5 [(0, .ref mo), (1, .int (nI b)), (3, .int (nI (max 1 (np / 2) - t))), (4, .int (oI (nxtF S (fun i => laI S A i b) (needI S b) g)))] → W p l e ({ frames := 3, cells := 0, slots := 0, locals := 69 } : Room) s m ([.ref mo, .int (nI b)] : List Value).toArray below meth c H locs (0) (0) (MQ below (gQ D ka lo (gxv (fun τ n => n = sz ∧ (∃ A2 : sS, MoAt τ mo A2 ∧ Rr (sRow S 2 (upd (S 2) b (choF S (fun i => laI S A i b) b np))) (A2 1) ∧ (∀ j : Nat, j ≠ 1 → j ≠ 12 → A2 j = A j)) ∧ gAs (gZo mo 16) σ τ))) ([.ref mo, .int (nI b)] : List Value).toArray s 0 0 (gA lo)) (F0 m 46 ls []) := by
            intro fu_lq
            induction fu_lq with
            | zero => intro t g ht hs hm_lq; exact absurd hm_lq (Nat.not_lt_zero _)
            | succ fu_lq ih_lq =>
              intro t g ht hs hm_lq υ hEx hag hL H locs ls hz hP hS hl
              obtain ⟨A1, hMo, hR, hAr, hmk⟩ := hEx
              have hl11 : A1 11 = A 11 := hAr 11 (by decide) (by decide)
              have hB9 : sB (sRow S 2 (upd (S 2) b g)) = sB S := rfl
              have hN9 : sN (sRow S 2 (upd (S 2) b g)) = sN S := rfl
              have hR9 : sR (sRow S 2 (upd (S 2) b g)) = sR S := rfl
              refine lv_iload_n hx hb dX8_giveMarks_46 rfl (lv_at hl 2 rfl) ?_
              refine g_if_le (tgt := 92) hx hb (by omega) dX8_giveMarks_47 (by decide) (fun c47 => ?_) (fun c47 => ?_)
              · exact g_vret (z := sz) hx hb hr hlk hz hP hL hS dX8_giveMarks_92 (gxv_i ⟨rfl, ⟨_, hMo, (by rw [← hs, chz_e (by omega)]; exact hR), hAr⟩, hag⟩)
              · refine lv_iload hx hb dX8_giveMarks_50 (lv_at hl 3 rfl) ?_
                rcases hx1 : nxtF S (fun i => laI S A i b) (needI S b) g with _ | ix
                · refine g_top (y := (-5)) rfl ?_
                  refine lv_if_lt (tgt := 92) hx hb dX8_giveMarks_52 (by decide) (fun c52 => ?_) (fun c52 => absurd (by decide) c52)
                  exact g_vret (z := sz) hx hb hr hlk hz hP hL hS dX8_giveMarks_92 (gxv_i ⟨rfl, ⟨_, hMo, (by rw [← hs, chz_n (by omega) hx1]; exact hR), hAr⟩, hag⟩)
                · refine g_top (y := (nI ix)) rfl ?_
                  have hix : ix < sN S := shP_lt hx1
                  have hih : hasB g ix = false := shP_has hx1
                  refine g_if_lt hx hb (by omega) dX8_giveMarks_52 (tgt := 92) (by decide) ?_
                  refine lv_aload_n hx hb dX8_giveMarks_55 rfl (lv_at hl 0 rfl) ?_
                  refine g_get (C := RX8) (T := TX8) (N := 20) hx hb hts hown hK hP hMo.c0 nX8_giveMarks_X8 rfl 15 (by decide) (by decide +kernel) rfl (v := .ref (mo + 12)) rfl dX8_giveMarks_56 ?_
                  refine lv_iload hx hb dX8_giveMarks_59 (lv_at hl 3 rfl) ?_
                  refine g_top (y := (nI ix)) (by rw [hx1]; rfl) ?_
                  refine lv_iconst (v := (nI 1)) hx hb dX8_giveMarks_61 (by decide) ?_
                  refine g_zast hx hb hK hP hL hS hMo.c12 (i := nI ix) (vp_in_nI (by omega) (by omega)) dX8_giveMarks_62 (fun H locs hq hP hL hS => ?_)
                  rw [nI_clamp (n := ix) (by omega)] at hP hL
                  have hz := hq.trans hz
                  obtain ⟨σ2, e2⟩ : ∃ υ0 : gS, υ0 = gup υ (mo + 12) (gZ 12 (upd (A1 12) ix (vp_nar .boolean ((nI 1))))) := ⟨_, rfl⟩
                  have hP : gH D ka σ2 H := by rw [e2]; exact hP
                  have hL : gL lo σ2 := by rw [e2]; exact hL
                  have hMo : MoAt σ2 mo (sRow A1 12 (upd (A1 12) ix (vp_nar .boolean ((nI 1))))) := by rw [e2]; exact hMo.w12 (upd (A1 12) ix (vp_nar .boolean ((nI 1))))
                  have hag := hag.upe e2 (zo_k (by decide))
                  obtain ⟨B, hMo, hBr, hmk⟩ : ∃ B : sS, MoAt σ2 mo B ∧ (∀ j : Nat, j ≠ 12 → B j = A1 j) ∧ (∀ i : Nat, i < 12 → B 12 i = bI (hasB (g ||| bitI ix) i)) := ⟨_, hMo, fun j hj => sRow_n hj, fun i hi => by rw [sRow_s]; exact mk_or hmk (by omega) i hi⟩
                  have hR : Rr (sRow S 2 (upd (S 2) b g)) (B 1) := by rw [hBr 1 (by decide)]; exact hR
                  have hl11 : B 11 = A 11 := (hBr 11 (by decide)).trans hl11
                  refine lv_aload_n hx hb dX8_giveMarks_63 rfl (lv_at hl 0 rfl) ?_
                  refine lv_iload_n hx hb dX8_giveMarks_64 rfl (lv_at hl 1 rfl) ?_
                  refine g_runV (As := [.int (nI b)]) (rest := []) (own := RX8) (C := RX8) (T := TX8) (N := 20) 1 hx hb hml hown hts hK hz hP hL hS hlo hl.1 (c_X8_someoneSings l mo B (sRow S 2 (upd (S 2) b g)) (g ||| bitI ix) b σ2 sz hMo hR hmk (by omega) (by omega) (by omega)) gX8_giveMarks_X8_someoneSings rfl rfl rfl (by decide +kernel) ⟨Nat.le_of_ble_eq_true rfl, Nat.le_of_ble_eq_true rfl⟩ hMo.c0 rfl rfl rfl (Nat.le_of_ble_eq_true rfl) dX8_giveMarks_65 ⟨Nat.le_of_ble_eq_true rfl, Nat.le_of_ble_eq_true rfl⟩ (g_ki0 (fun H locs hz hP hL hS => ?_))
                  refine g_top (y := (bI (canF S (fun i => laI S A i b) (g ||| bitI ix) b))) (congrArg bI (by rw [canF_m, la_m (A2 := B) (A := A) hl11])) ?_
                  refine g_ifb_ne (tgt := 72) hx hb dX8_giveMarks_68 (by decide) (fun c68 => ?_) (fun c68 => ?_)
                  · refine lv_aload_n hx hb dX8_giveMarks_72 rfl (lv_at hl 0 rfl) ?_
                    refine lv_iload hx hb dX8_giveMarks_73 (lv_at hl 3 rfl) ?_
                    refine g_top (y := (nI ix)) (by rw [hx1]; rfl) ?_
                    refine lv_iload_n hx hb dX8_giveMarks_75 rfl (lv_at hl 1 rfl) ?_
                    refine g_runV (As := [.int (nI ix), .int (nI b)]) (rest := []) (own := RX8) (C := RX8) (T := TX8) (N := 20) 2 hx hb hml hown hts hK hz hP hL hS hlo hl.1 (c_X8_setMark l mo B ix b σ2 sz hMo (by omega) (by omega)) gX8_giveMarks_X8_setMark rfl rfl rfl (by decide +kernel) ⟨Nat.le_of_ble_eq_true rfl, Nat.le_of_ble_eq_true rfl⟩ hMo.c0 rfl rfl rfl (Nat.le_of_ble_eq_true rfl) dX8_giveMarks_76 ⟨Nat.le_of_ble_eq_true rfl, Nat.le_of_ble_eq_true rfl⟩ (g_kxv0 (fun τ_3 H locs z1 hz hp hP hL hS => ?_))
                    obtain ⟨hz1, hm_3, ha_3⟩ := hp
                    have hz := hz.trans hz1
                    have hMo := hm_3
                    have hag := hag.tr ha_3 (fun q h => h)
                    have hR : Rr (sRow S 2 (upd (S 2) b (g ||| bitI ix))) ((sRow B 1 (upd (B 1) (232 + 3 * ix + b / 32) (B 1 (232 + 3 * ix + b / 32) ^^^ bitI (b % 32)))) 1) := by rw [sRow_s, ← xor_or (by omega) hih, ← mrk_m]; exact hR.setMark hok (by omega) (by omega)
                    have hB9 : sB (sRow S 2 (upd (S 2) b (g ||| bitI ix))) = sB S := rfl
                    have hN9 : sN (sRow S 2 (upd (S 2) b (g ||| bitI ix))) = sN S := rfl
                    have hR9 : sR (sRow S 2 (upd (S 2) b (g ||| bitI ix))) = sR S := rfl
                    refine lv_iinc (v := (nI (max 1 (np / 2) - t - 1))) (lv' := [(3, .int (nI (max 1 (np / 2) - t - 1))), (0, .ref mo), (1, .int (nI b)), (4, .int (oI (nxtF S (fun i => laI S A i b) (needI S b) g)))]) hx hb dX8_giveMarks_79 hl (k := 2) rfl (g_dec (by omega)) (by decide) rfl (fun ls hl => ?_)
                    refine lv_aload_n hx hb dX8_giveMarks_82 rfl (lv_at hl 1 rfl) ?_
                    refine lv_iload_n hx hb dX8_giveMarks_83 rfl (lv_at hl 2 rfl) ?_
                    refine g_runV (As := [.int (nI b)]) (rest := []) (own := RX8) (C := RX8) (T := TX8) (N := 20) 1 hx hb hml hown hts hK hz hP hL hS hlo hl.1 (c_X8_nextToBreathe l mo (sRow B 1 (upd (B 1) (232 + 3 * ix + b / 32) (B 1 (232 + 3 * ix + b / 32) ^^^ bitI (b % 32)))) (sRow S 2 (upd (S 2) b (g ||| bitI ix))) (g ||| bitI ix) b τ_3 sz hMo hR hmk (by omega) (by omega) (by omega) (by omega)) gX8_giveMarks_X8_nextToBreathe rfl rfl rfl (by decide +kernel) ⟨Nat.le_of_ble_eq_true rfl, Nat.le_of_ble_eq_true rfl⟩ hMo.c0 rfl rfl rfl (Nat.le_of_ble_eq_true rfl) dX8_giveMarks_84 ⟨Nat.le_of_ble_eq_true rfl, Nat.le_of_ble_eq_true rfl⟩ (g_ki0 (fun H locs hz hP hL hS => ?_))
                    refine g_top (y := (oI (nxtF S (fun i => laI S A i b) (needI S b) (g ||| bitI ix)))) (congrArg oI (by rw [nxtF_m, needI_m, la_m (A2 := (sRow B 1 (upd (B 1) (232 + 3 * ix + b / 32) (B 1 (232 + 3 * ix + b / 32) ^^^ bitI (b % 32))))) (A := A) hl11])) ?_
                    refine lv_istore (lv' := [(4, .int (oI (nxtF S (fun i => laI S A i b) (needI S b) (g ||| bitI ix)))), (3, .int (nI (max 1 (np / 2) - t - 1))), (0, .ref mo), (1, .int (nI b))]) hx hb dX8_giveMarks_87 hl (by decide) rfl (fun ls hl => ?_)
                    refine lv_goto (tgt := 46) hx hb dX8_giveMarks_89 (by decide) ?_
                    have e_3 : (nI (max 1 (np / 2) - t - 1)) = (nI (max 1 (np / 2) - (t + 1))) := (congrArg nI (by omega))
                    have hl := lv_sub hl (l' := [(0, .ref mo), (1, .int (nI b)), (3, .int (nI (max 1 (np / 2) - t - 1))), (4, .int (oI (nxtF S (fun i => laI S A i b) (needI S b) (g ||| bitI ix))))]) [2, 3, 1, 0] rfl
                    rw [e_3] at hl
                    exact ih_lq (t + 1) (g ||| bitI ix) (by omega) ((chz_s (by omega) hx1 c68).trans hs) (by omega) τ_3 ⟨_, hMo, hR, fun j h1 h2 => (sRow_n h1).trans ((hBr j h2).trans (hAr j h1 h2)), hmk⟩ hag hL H locs ls hz hP hS hl
                  · exact g_vret (z := sz) hx hb hr hlk hz hP hL hS dX8_giveMarks_71 (gxv_i ⟨rfl, ⟨_, hMo, (by rw [← hs, chz_f (by omega) hx1 c68]; exact hR), fun j h1 h2 => (hBr j h2).trans (hAr j h1 h2)⟩, hag⟩)
          exact lq _ 0 (nI 0) (by omega) rfl (Nat.lt_succ_self _) υ ⟨_, hMo, hR, fun j h1 h2 => hA1r j h2, hmk⟩ hag hL H locs ls hz hP hS (lv_sub hl [3, 4, 1, 0] rfl)
        · refine lv_iconst (v := (nI 1)) hx hb dX8_giveMarks_33 (by decide) ?_
          refine lv_goto (tgt := 38) hx hb dX8_giveMarks_34 (by decide) ?_
          refine g_top (y := (nI (max 1 (np / 2)))) (congrArg nI (by omega)) ?_
          refine lv_istore_n (lv' := [(3, .int (nI (max 1 (np / 2)))), (2, .int (nI (np / 2))), (0, .ref mo), (1, .int (nI b))]) hx hb dX8_giveMarks_38 rfl hl (by decide) rfl (fun ls hl => ?_)
          have hR : Rr (sRow S 2 (upd (S 2) b (nI 0))) (A1 1) := by rw [upd_id (show S 2 b = nI 0 from hzm), sRow_id]; exact hR
          have hB9 : sB (sRow S 2 (upd (S 2) b (nI 0))) = sB S := rfl
          have hN9 : sN (sRow S 2 (upd (S 2) b (nI 0))) = sN S := rfl
          have hR9 : sR (sRow S 2 (upd (S 2) b (nI 0))) = sR S := rfl
          refine lv_aload_n hx hb dX8_giveMarks_39 rfl (lv_at hl 2 rfl) ?_
          refine lv_iload_n hx hb dX8_giveMarks_40 rfl (lv_at hl 3 rfl) ?_
          refine g_runV (As := [.int (nI b)]) (rest := []) (own := RX8) (C := RX8) (T := TX8) (N := 20) 1 hx hb hml hown hts hK hz hP hL hS hlo hl.1 (c_X8_nextToBreathe l mo A1 (sRow S 2 (upd (S 2) b (nI 0))) (nI 0) b υ sz hMo hR hmk (by omega) (by omega) (by omega) (by omega)) gX8_giveMarks_X8_nextToBreathe rfl rfl rfl (by decide +kernel) ⟨Nat.le_of_ble_eq_true rfl, Nat.le_of_ble_eq_true rfl⟩ hMo.c0 rfl rfl rfl (Nat.le_of_ble_eq_true rfl) dX8_giveMarks_41 ⟨Nat.le_of_ble_eq_true rfl, Nat.le_of_ble_eq_true rfl⟩ (g_ki0 (fun H locs hz hP hL hS => ?_))
          refine g_top (y := (oI (nxtF S (fun i => laI S A i b) (needI S b) (nI 0)))) (congrArg oI (by rw [nxtF_m, needI_m, la_m (A2 := A1) (A := A) hl11])) ?_
          refine lv_istore (lv' := [(4, .int (oI (nxtF S (fun i => laI S A i b) (needI S b) (nI 0)))), (3, .int (nI (max 1 (np / 2)))), (2, .int (nI (np / 2))), (0, .ref mo), (1, .int (nI b))]) hx hb dX8_giveMarks_44 hl (by decide) rfl (fun ls hl => ?_)
          have lq : ∀ (fu_lq : Nat) (t : Nat) (g : Int32), (t ≤ max 1 (np / 2)) → (chzF S (fun i => laI S A i b) (needI S b) b (max 1 (np / 2) - t) g = choF S (fun i => laI S A i b) b np) → (max 1 (np / 2) - t < fu_lq) → ∀ (υ : gS), (∃ A2 : sS, MoAt υ mo A2 ∧ Rr (sRow S 2 (upd (S 2) b g)) (A2 1) ∧ (∀ j : Nat, j ≠ 1 → j ≠ 12 → A2 j = A j) ∧ (∀ i : Nat, i < 12 → A2 12 i = bI (hasB g i))) → (gAs (gZo mo 16) σ υ) → gL lo υ → ∀ (H : Heap) (locs : List Loc) (ls : Array Slot), H.size = sz → gH D ka υ H → va_S (gA lo) s.heap H locs → lv_has ls 5 [(0, .ref mo), (1, .int (nI b)), (3, .int (nI (max 1 (np / 2) - t))), (4, .int (oI (nxtF S (fun i => laI S A i b) (needI S b) g)))] → W p l e ({ frames := 3, cells := 0, slots := 0, locals := 69 } : Room) s m ([.ref mo, .int (nI b)] : List Value).toArray below meth c H locs (0) (0) (MQ below (gQ D ka lo (gxv (fun τ n => n = sz ∧ (∃ A2 : sS, MoAt τ mo A2 ∧ Rr (sRow S 2 (upd (S 2) b (choF S (fun i => laI S A i b) b np))) (A2 1) ∧ (∀ j : Nat, j ≠ 1 → j ≠ 12 → A2 j = A j)) ∧ gAs (gZo mo 16) σ τ))) ([.ref mo, .int (nI b)] : List Value).toArray s 0 0 (gA lo)) (F0 m 46 ls []) := by
            intro fu_lq
            induction fu_lq with
            | zero => intro t g ht hs hm_lq; exact absurd hm_lq (Nat.not_lt_zero _)
            | succ fu_lq ih_lq =>
              intro t g ht hs hm_lq υ hEx hag hL H locs ls hz hP hS hl
              obtain ⟨A4, hMo, hR, hAr, hmk⟩ := hEx
              have hl11 : A4 11 = A 11 := hAr 11 (by decide) (by decide)
              have hB9 : sB (sRow S 2 (upd (S 2) b g)) = sB S := rfl
              have hN9 : sN (sRow S 2 (upd (S 2) b g)) = sN S := rfl
              have hR9 : sR (sRow S 2 (upd (S 2) b g)) = sR S := rfl
              refine lv_iload_n hx hb dX8_giveMarks_46 rfl (lv_at hl 2 rfl) ?_
              refine g_if_le (tgt := 92) hx hb (by omega) dX8_giveMarks_47 (by decide) (fun c47 => ?_) (fun c47 => ?_)
              · exact g_vret (z := sz) hx hb hr hlk hz hP hL hS dX8_giveMarks_92 (gxv_i ⟨rfl, ⟨_, hMo, (by rw [← hs, chz_e (by omega)]; exact hR), hAr⟩, hag⟩)
              · refine lv_iload hx hb dX8_giveMarks_50 (lv_at hl 3 rfl) ?_
                rcases hx1 : nxtF S (fun i => laI S A i b) (needI S b) g with _ | ix
                · refine g_top (y := (-5)) rfl ?_
                  refine lv_if_lt (tgt := 92) hx hb dX8_giveMarks_52 (by decide) (fun c52 => ?_) (fun c52 => absurd (by decide) c52)
                  exact g_vret (z := sz) hx hb hr hlk hz hP hL hS dX8_giveMarks_92 (gxv_i ⟨rfl, ⟨_, hMo, (by rw [← hs, chz_n (by omega) hx1]; exact hR), hAr⟩, hag⟩)
                · refine g_top (y := (nI ix)) rfl ?_
                  have hix : ix < sN S := shP_lt hx1
                  have hih : hasB g ix = false := shP_has hx1
                  refine g_if_lt hx hb (by omega) dX8_giveMarks_52 (tgt := 92) (by decide) ?_
                  refine lv_aload_n hx hb dX8_giveMarks_55 rfl (lv_at hl 0 rfl) ?_
                  refine g_get (C := RX8) (T := TX8) (N := 20) hx hb hts hown hK hP hMo.c0 nX8_giveMarks_X8 rfl 15 (by decide) (by decide +kernel) rfl (v := .ref (mo + 12)) rfl dX8_giveMarks_56 ?_
                  refine lv_iload hx hb dX8_giveMarks_59 (lv_at hl 3 rfl) ?_
                  refine g_top (y := (nI ix)) (by rw [hx1]; rfl) ?_
                  refine lv_iconst (v := (nI 1)) hx hb dX8_giveMarks_61 (by decide) ?_
                  refine g_zast hx hb hK hP hL hS hMo.c12 (i := nI ix) (vp_in_nI (by omega) (by omega)) dX8_giveMarks_62 (fun H locs hq hP hL hS => ?_)
                  rw [nI_clamp (n := ix) (by omega)] at hP hL
                  have hz := hq.trans hz
                  obtain ⟨σ5, e5⟩ : ∃ υ0 : gS, υ0 = gup υ (mo + 12) (gZ 12 (upd (A4 12) ix (vp_nar .boolean ((nI 1))))) := ⟨_, rfl⟩
                  have hP : gH D ka σ5 H := by rw [e5]; exact hP
                  have hL : gL lo σ5 := by rw [e5]; exact hL
                  have hMo : MoAt σ5 mo (sRow A4 12 (upd (A4 12) ix (vp_nar .boolean ((nI 1))))) := by rw [e5]; exact hMo.w12 (upd (A4 12) ix (vp_nar .boolean ((nI 1))))
                  have hag := hag.upe e5 (zo_k (by decide))
                  obtain ⟨B, hMo, hBr, hmk⟩ : ∃ B : sS, MoAt σ5 mo B ∧ (∀ j : Nat, j ≠ 12 → B j = A4 j) ∧ (∀ i : Nat, i < 12 → B 12 i = bI (hasB (g ||| bitI ix) i)) := ⟨_, hMo, fun j hj => sRow_n hj, fun i hi => by rw [sRow_s]; exact mk_or hmk (by omega) i hi⟩
                  have hR : Rr (sRow S 2 (upd (S 2) b g)) (B 1) := by rw [hBr 1 (by decide)]; exact hR
                  have hl11 : B 11 = A 11 := (hBr 11 (by decide)).trans hl11
                  refine lv_aload_n hx hb dX8_giveMarks_63 rfl (lv_at hl 0 rfl) ?_
                  refine lv_iload_n hx hb dX8_giveMarks_64 rfl (lv_at hl 1 rfl) ?_
                  refine g_runV (As := [.int (nI b)]) (rest := []) (own := RX8) (C := RX8) (T := TX8) (N := 20) 1 hx hb hml hown hts hK hz hP hL hS hlo hl.1 (c_X8_someoneSings l mo B (sRow S 2 (upd (S 2) b g)) (g ||| bitI ix) b σ5 sz hMo hR hmk (by omega) (by omega) (by omega)) gX8_giveMarks_X8_someoneSings rfl rfl rfl (by decide +kernel) ⟨Nat.le_of_ble_eq_true rfl, Nat.le_of_ble_eq_true rfl⟩ hMo.c0 rfl rfl rfl (Nat.le_of_ble_eq_true rfl) dX8_giveMarks_65 ⟨Nat.le_of_ble_eq_true rfl, Nat.le_of_ble_eq_true rfl⟩ (g_ki0 (fun H locs hz hP hL hS => ?_))
                  refine g_top (y := (bI (canF S (fun i => laI S A i b) (g ||| bitI ix) b))) (congrArg bI (by rw [canF_m, la_m (A2 := B) (A := A) hl11])) ?_
                  refine g_ifb_ne (tgt := 72) hx hb dX8_giveMarks_68 (by decide) (fun c68 => ?_) (fun c68 => ?_)
                  · refine lv_aload_n hx hb dX8_giveMarks_72 rfl (lv_at hl 0 rfl) ?_
                    refine lv_iload hx hb dX8_giveMarks_73 (lv_at hl 3 rfl) ?_
                    refine g_top (y := (nI ix)) (by rw [hx1]; rfl) ?_
                    refine lv_iload_n hx hb dX8_giveMarks_75 rfl (lv_at hl 1 rfl) ?_
                    refine g_runV (As := [.int (nI ix), .int (nI b)]) (rest := []) (own := RX8) (C := RX8) (T := TX8) (N := 20) 2 hx hb hml hown hts hK hz hP hL hS hlo hl.1 (c_X8_setMark l mo B ix b σ5 sz hMo (by omega) (by omega)) gX8_giveMarks_X8_setMark rfl rfl rfl (by decide +kernel) ⟨Nat.le_of_ble_eq_true rfl, Nat.le_of_ble_eq_true rfl⟩ hMo.c0 rfl rfl rfl (Nat.le_of_ble_eq_true rfl) dX8_giveMarks_76 ⟨Nat.le_of_ble_eq_true rfl, Nat.le_of_ble_eq_true rfl⟩ (g_kxv0 (fun τ_6 H locs z1 hz hp hP hL hS => ?_))
                    obtain ⟨hz1, hm_6, ha_6⟩ := hp
                    have hz := hz.trans hz1
                    have hMo := hm_6
                    have hag := hag.tr ha_6 (fun q h => h)
                    have hR : Rr (sRow S 2 (upd (S 2) b (g ||| bitI ix))) ((sRow B 1 (upd (B 1) (232 + 3 * ix + b / 32) (B 1 (232 + 3 * ix + b / 32) ^^^ bitI (b % 32)))) 1) := by rw [sRow_s, ← xor_or (by omega) hih, ← mrk_m]; exact hR.setMark hok (by omega) (by omega)
                    have hB9 : sB (sRow S 2 (upd (S 2) b (g ||| bitI ix))) = sB S := rfl
                    have hN9 : sN (sRow S 2 (upd (S 2) b (g ||| bitI ix))) = sN S := rfl
                    have hR9 : sR (sRow S 2 (upd (S 2) b (g ||| bitI ix))) = sR S := rfl
                    refine lv_iinc (v := (nI (max 1 (np / 2) - t - 1))) (lv' := [(3, .int (nI (max 1 (np / 2) - t - 1))), (0, .ref mo), (1, .int (nI b)), (4, .int (oI (nxtF S (fun i => laI S A i b) (needI S b) g)))]) hx hb dX8_giveMarks_79 hl (k := 2) rfl (g_dec (by omega)) (by decide) rfl (fun ls hl => ?_)
                    refine lv_aload_n hx hb dX8_giveMarks_82 rfl (lv_at hl 1 rfl) ?_
                    refine lv_iload_n hx hb dX8_giveMarks_83 rfl (lv_at hl 2 rfl) ?_
                    refine g_runV (As := [.int (nI b)]) (rest := []) (own := RX8) (C := RX8) (T := TX8) (N := 20) 1 hx hb hml hown hts hK hz hP hL hS hlo hl.1 (c_X8_nextToBreathe l mo (sRow B 1 (upd (B 1) (232 + 3 * ix + b / 32) (B 1 (232 + 3 * ix + b / 32) ^^^ bitI (b % 32)))) (sRow S 2 (upd (S 2) b (g ||| bitI ix))) (g ||| bitI ix) b τ_6 sz hMo hR hmk (by omega) (by omega) (by omega) (by omega)) gX8_giveMarks_X8_nextToBreathe rfl rfl rfl (by decide +kernel) ⟨Nat.le_of_ble_eq_true rfl, Nat.le_of_ble_eq_true rfl⟩ hMo.c0 rfl rfl rfl (Nat.le_of_ble_eq_true rfl) dX8_giveMarks_84 ⟨Nat.le_of_ble_eq_true rfl, Nat.le_of_ble_eq_true rfl⟩ (g_ki0 (fun H locs hz hP hL hS => ?_))
                    refine g_top (y := (oI (nxtF S (fun i => laI S A i b) (needI S b) (g ||| bitI ix)))) (congrArg oI (by rw [nxtF_m, needI_m, la_m (A2 := (sRow B 1 (upd (B 1) (232 + 3 * ix + b / 32) (B 1 (232 + 3 * ix + b / 32) ^^^ bitI (b % 32))))) (A := A) hl11])) ?_
                    refine lv_istore (lv' := [(4, .int (oI (nxtF S (fun i => laI S A i b) (needI S b) (g ||| bitI ix)))), (3, .int (nI (max 1 (np / 2) - t - 1))), (0, .ref mo), (1, .int (nI b))]) hx hb dX8_giveMarks_87 hl (by decide) rfl (fun ls hl => ?_)
                    refine lv_goto (tgt := 46) hx hb dX8_giveMarks_89 (by decide) ?_
                    have e_3 : (nI (max 1 (np / 2) - t - 1)) = (nI (max 1 (np / 2) - (t + 1))) := (congrArg nI (by omega))
                    have hl := lv_sub hl (l' := [(0, .ref mo), (1, .int (nI b)), (3, .int (nI (max 1 (np / 2) - t - 1))), (4, .int (oI (nxtF S (fun i => laI S A i b) (needI S b) (g ||| bitI ix))))]) [2, 3, 1, 0] rfl
                    rw [e_3] at hl
                    exact ih_lq (t + 1) (g ||| bitI ix) (by omega) ((chz_s (by omega) hx1 c68).trans hs) (by omega) τ_6 ⟨_, hMo, hR, fun j h1 h2 => (sRow_n h1).trans ((hBr j h2).trans (hAr j h1 h2)), hmk⟩ hag hL H locs ls hz hP hS hl
                  · exact g_vret (z := sz) hx hb hr hlk hz hP hL hS dX8_giveMarks_71 (gxv_i ⟨rfl, ⟨_, hMo, (by rw [← hs, chz_f (by omega) hx1 c68]; exact hR), fun j h1 h2 => (hBr j h2).trans (hAr j h1 h2)⟩, hag⟩)
          exact lq _ 0 (nI 0) (by omega) rfl (Nat.lt_succ_self _) υ ⟨_, hMo, hR, fun j h1 h2 => hA1r j h2, hmk⟩ hag hL H locs ls hz hP hS (lv_sub hl [3, 4, 1, 0] rfl)
      · refine lv_aload_n hx hb dX8_giveMarks_8 rfl (lv_at hl 0 rfl) ?_
        refine g_get (C := RX8) (T := TX8) (N := 20) hx hb hts hown hK hP hMo.c0 nX8_giveMarks_X8 rfl 15 (by decide) (by decide +kernel) rfl (v := .ref (mo + 12)) rfl dX8_giveMarks_9 ?_
        refine lv_iload_n hx hb dX8_giveMarks_12 rfl (lv_at hl 2 rfl) ?_
        refine lv_iconst (v := (nI 0)) hx hb dX8_giveMarks_13 (by decide) ?_
        refine g_zast hx hb hK hP hL hS hMo.c12 (i := nI k) (vp_in_nI (by omega) (by omega)) dX8_giveMarks_14 (fun H locs hq hP hL hS => ?_)
        rw [nI_clamp (n := k) (by omega)] at hP hL
        have hz := hq.trans hz
        obtain ⟨σ7, e7⟩ : ∃ υ0 : gS, υ0 = gup υ (mo + 12) (gZ 12 (upd ((sRow A 12 (filF (A 12) 0 k (vp_nar .boolean (nI 0)))) 12) k (vp_nar .boolean ((nI 0))))) := ⟨_, rfl⟩
        have hP : gH D ka σ7 H := by rw [e7]; exact hP
        have hL : gL lo σ7 := by rw [e7]; exact hL
        have hMo : MoAt σ7 mo (sRow (sRow A 12 (filF (A 12) 0 k (vp_nar .boolean (nI 0)))) 12 (upd ((sRow A 12 (filF (A 12) 0 k (vp_nar .boolean (nI 0)))) 12) k (vp_nar .boolean ((nI 0))))) := by rw [e7]; exact hMo.w12 (upd ((sRow A 12 (filF (A 12) 0 k (vp_nar .boolean (nI 0)))) 12) k (vp_nar .boolean ((nI 0))))
        have hag := hag.upe e7 (zo_k (by decide))
        refine lv_iinc (v := (nI (k + 1))) (lv' := [(2, .int (nI (k + 1))), (0, .ref mo), (1, .int (nI b))]) hx hb dX8_giveMarks_15 hl (k := 2) rfl (g_inc k 1) (by decide) rfl (fun ls hl => ?_)
        refine lv_goto (tgt := 2) hx hb dX8_giveMarks_18 (by decide) ?_
        exact ih_lp (k + 1) (by omega) (by omega) σ7 (by rw [← mk0_s]; exact hMo) hag hL H locs ls hz hP hS (lv_sub hl [1, 2, 0] rfl)
  exact lp _ 0 (by omega) (Nat.lt_succ_self _) σ (by rw [filF_0, sRow_id]; exact hMo) hag hL H locs ls hz hP hS (lv_sub hl [1, 2, 0] rfl)
