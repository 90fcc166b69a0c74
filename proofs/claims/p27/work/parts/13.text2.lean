/-! the whole text -/
theorem ct_s {P : Prop} [Decidable P] {a : Nat} {tm : Option Nat} (h : ∀ k : Nat, tm = some k → k < 100) (ha : a < 100) : ∀ k : Nat, (if P then some a else tm) = some k → k < 100 := by
  intro k hk
  by_cases c : P
  · rw [if_pos c] at hk; cases hk; exact ha
  · rw [if_neg c] at hk; exact h k hk

theorem nX3_findFault_X3 : ∀ w ∈ wsX30, w ∈ wsX3_findFault := by decide +kernel
set_option maxHeartbeats 4000000 in
set_option maxRecDepth 100000 in
theorem c_X3_findFault (l : Launch) (t : Nat) (f : Nat → Int32) (n a : Nat) (so ld ti : Int32) (σ : gS) (sz : Nat) (hTx : TxAt σ t f n a so ld ti) (hLn : n ≤ 60) : gM l yX3_findFault wsX3_findFault ({ frames := 5, cells := 0, slots := 0, locals := 107 } : Room) 0 0 [.ref t] σ sz (gxi (fun r τ z => r = ffI f n ∧ z = sz ∧ (∃ (a2 : Nat) (so2 ld2 ti2 : Int32), TxAt τ t f n a2 so2 ld2 ti2) ∧ gAs (gZo t 3) σ τ)) := by
  refine gM_of (cc := cX3_findFault) (maxL := 5) (ret := (some .int)) (by decide) rfl (Nat.le_of_ble_eq_true rfl) ?_
  intro D ka lo hL hlo p e s m below meth c hx hb hr hts hown hml hlk hnm hK H locs ls hz hP hS hl
  have hl : lv_has ls 5 [(0, .ref t)] := hl
  have hown : s.vm.findClass RX3 = some m.cls := hown
  have hag : gAs (gZo t 3) σ σ := gAs.rf
  refine lv_aload_n hx hb dX3_findFault_0 rfl (lv_at hl 0 rfl) ?_
  refine g_get (C := RX3) (T := TX3) (N := 6) hx hb hts hown hK hP hTx.c0 nX3_findFault_X3 rfl 1 (by decide) (by decide +kernel) rfl (v := .int (nI n)) rfl dX3_findFault_1 ?_
  refine g_if_ne (tgt := 9) hx hb (by omega) dX3_findFault_4 (by decide) (fun c4 => ?_) (fun c4 => ?_)
  · refine lv_iconst (v := (-1)) hx hb dX3_findFault_9 (by decide) ?_
    refine lv_istore_n (lv' := [(1, .int (-1)), (0, .ref t)]) hx hb dX3_findFault_10 rfl hl (by decide) rfl (fun ls hl => ?_)
    refine lv_iconst (v := (nI 0)) hx hb dX3_findFault_11 (by decide) ?_
    refine lv_istore_n (lv' := [(2, .int (nI 0)), (1, .int (-1)), (0, .ref t)]) hx hb dX3_findFault_12 rfl hl (by decide) rfl (fun ls hl => ?_)
    refine lv_aload_n hx hb dX3_findFault_13 rfl (lv_at hl 2 rfl) ?_
    refine lv_iconst (v := (nI 0)) hx hb dX3_findFault_14 (by decide) ?_
    refine g_put (C := RX3) (T := TX3) (N := 6) hx hb hts hown hK hP hL hS hTx.c0 nX3_findFault_X3 tyX3 tyX3_ok nmX3 rfl 2 (by decide) (by decide +kernel) rfl rfl (v := .int (nI 0)) rfl rfl (Nat.le_of_ble_eq_true rfl) dX3_findFault_15 (fun H locs hq hP hL hS => ?_)
    have hz := hq.trans hz
    obtain ⟨σ1, e1⟩ : ∃ υ0 : gS, υ0 = gup σ t (gO 3 [.ref (t + 1), .int (nI n), .int (nI 0), .int so, .int ld, .int ti]) := ⟨_, rfl⟩
    have hP : gH D ka σ1 H := by rw [e1]; exact hP
    have hL : gL lo σ1 := by rw [e1]; exact hL
    have hTx : TxAt σ1 t f n 0 so ld ti := by rw [e1]; exact hTx.p2 0
    have hag := hag.upe e1 (zo_0 (by decide))
    refine lv_iconst (v := (nI 0)) hx hb dX3_findFault_18 (by decide) ?_
    refine lv_istore_n (lv' := [(3, .int (nI 0)), (2, .int (nI 0)), (1, .int (-1)), (0, .ref t)]) hx hb dX3_findFault_19 rfl hl (by decide) rfl (fun ls hl => ?_)
    have lp : ∀ (fu_lp : Nat) (it : Nat) (a : Nat) (su : Nat) (tm : Option Nat), (it ≤ 60) → (a ≤ 70) → (su ≤ it * 96) → (∀ k : Nat, tm = some k → k < 100) → (paF f n (60 - it) a su tm = paF f n 60 0 0 none) → (60 - it < fu_lp) → ∀ (υ : gS), (∃ (so2 ld2 ti2 : Int32), TxAt υ t f n a so2 ld2 ti2) → (gAs (gZo t 3) σ υ) → gL lo υ → ∀ (H : Heap) (locs : List Loc) (ls : Array Slot), H.size = sz → gH D ka υ H → va_S (gA lo) s.heap H locs → lv_has ls 5 [(0, .ref t), (1, .int (oJ tm)), (2, .int (nI su)), (3, .int (nI it))] → W p l e ({ frames := 5, cells := 0, slots := 0, locals := 107 } : Room) s m ([.ref t] : List Value).toArray below meth c H locs (0) (0) (MQ below (gQ D ka lo (gxi (fun r τ z => r = ffI f n ∧ z = sz ∧ (∃ (a2 : Nat) (so2 ld2 ti2 : Int32), TxAt τ t f n a2 so2 ld2 ti2) ∧ gAs (gZo t 3) σ τ))) ([.ref t] : List Value).toArray s 0 0 (gA lo)) (F0 m 20 ls []) := by
      intro fu_lp
      induction fu_lp with
      | zero => intro it a su tm hit0 ha0 hsu hct hs hm_lp; exact absurd hm_lp (Nat.not_lt_zero _)
      | succ fu_lp ih_lp =>
        intro it a su tm hit0 ha0 hsu hct hs hm_lp υ hTx hag hL H locs ls hz hP hS hl
        obtain ⟨so2, ld2, ti2, hTx⟩ := hTx
        have hit := itF_a (f := f) (n := n) (a := a)
        have hit2 := itF_t f n a
        refine lv_iload_n hx hb dX3_findFault_20 rfl (lv_at hl 3 rfl) ?_
        refine lv_bipush (v := (nI 60)) hx hb dX3_findFault_21 (by decide) ?_
        refine g_icmp_ge (tgt := 81) (a := it) (b := 60) hx hb (by omega) (by omega) dX3_findFault_23 (by decide) (fun c23 => ?_) (fun c23 => ?_)
        · refine lv_iload_n hx hb dX3_findFault_81 rfl (lv_at hl 1 rfl) ?_
          exact g_iret (z := sz) hx hb hr hlk hz hP hL hS dX3_findFault_82 (gxi_i ⟨by rw [ffI, if_neg (by omega), ← hs, paF_e (by omega)], rfl, ⟨_, _, _, _, hTx⟩, hag⟩)
        · refine lv_aload_n hx hb dX3_findFault_26 rfl (lv_at hl 0 rfl) ?_
          refine g_get (C := RX3) (T := TX3) (N := 6) hx hb hts hown hK hP hTx.c0 nX3_findFault_X3 rfl 2 (by decide) (by decide +kernel) rfl (v := .int (nI a)) rfl dX3_findFault_27 ?_
          refine lv_aload_n hx hb dX3_findFault_30 rfl (lv_at hl 0 rfl) ?_
          refine g_get (C := RX3) (T := TX3) (N := 6) hx hb hts hown hK hP hTx.c0 nX3_findFault_X3 rfl 1 (by decide) (by decide +kernel) rfl (v := .int (nI n)) rfl dX3_findFault_31 ?_
          refine g_icmp_ge (tgt := 81) (a := a) (b := n) hx hb (by omega) (by omega) dX3_findFault_34 (by decide) (fun c34 => ?_) (fun c34 => ?_)
          · refine lv_iload_n hx hb dX3_findFault_81 rfl (lv_at hl 1 rfl) ?_
            exact g_iret (z := sz) hx hb hr hlk hz hP hL hS dX3_findFault_82 (gxi_i ⟨by rw [ffI, if_neg (by omega), ← hs, paF_e (by omega)], rfl, ⟨_, _, _, _, hTx⟩, hag⟩)
          · refine lv_aload_n hx hb dX3_findFault_37 rfl (lv_at hl 0 rfl) ?_
            refine g_get (C := RX3) (T := TX3) (N := 6) hx hb hts hown hK hP hTx.c0 nX3_findFault_X3 rfl 2 (by decide) (by decide +kernel) rfl (v := .int (nI a)) rfl dX3_findFault_38 ?_
            refine lv_istore (lv' := [(4, .int (nI a)), (0, .ref t), (1, .int (oJ tm)), (2, .int (nI su)), (3, .int (nI it))]) hx hb dX3_findFault_41 hl (by decide) rfl (fun ls hl => ?_)
            refine lv_aload_n hx hb dX3_findFault_43 rfl (lv_at hl 1 rfl) ?_
            refine g_runV (As := []) (rest := []) (own := RX3) (C := RX3) (T := TX3) (N := 6) 0 hx hb hml hown hts hK hz hP hL hS hlo hl.1 (c_X3_readItem l t f n a so2 ld2 ti2 υ sz hTx (by omega) (by omega)) gX3_findFault_X3_readItem rfl rfl rfl (by decide +kernel) ⟨Nat.le_of_ble_eq_true rfl, Nat.le_of_ble_eq_true rfl⟩ hTx.c0 rfl rfl rfl (Nat.le_of_ble_eq_true rfl) dX3_findFault_44 ⟨Nat.le_of_ble_eq_true rfl, Nat.le_of_ble_eq_true rfl⟩ (g_kxi0 (fun r_3 τ_3 H locs z1 hz hp hP hL hS => ?_))
            obtain ⟨hr_3, hz1, so_3, ld_3, ti_3, hn_3, ht_3, ha_3⟩ := hp
            have hz := hz.trans hz1
            have hTx := hn_3
            have hag := hag.tr ha_3 (fun q h => by have h1 := h.1; have h2 := h.2; exact ⟨by omega, by omega⟩)
            subst hr_3
            refine g_ifb_ne (tgt := 55) hx hb dX3_findFault_47 (by decide) (fun c47 => ?_) (fun c47 => ?_)
            · refine lv_iload_n hx hb dX3_findFault_55 rfl (lv_at hl 3 rfl) ?_
              refine lv_aload_n hx hb dX3_findFault_56 rfl (lv_at hl 1 rfl) ?_
              refine g_get (C := RX3) (T := TX3) (N := 6) hx hb hts hown hK hP hTx.c0 nX3_findFault_X3 rfl 5 (by decide) (by decide +kernel) rfl (v := .int ti_3) rfl dX3_findFault_57 ?_
              refine g_top (y := (nI ((itF f n a).2.2.2.2))) ((ht_3 c47).2.2) ?_
              refine lv_iadd hx hb dX3_findFault_60 ?_
              refine g_top (nI_add su ((itF f n a).2.2.2.2)) ?_
              refine lv_istore_n (lv' := [(2, .int (nI (su + ((itF f n a).2.2.2.2)))), (4, .int (nI a)), (0, .ref t), (1, .int (oJ tm)), (3, .int (nI it))]) hx hb dX3_findFault_61 rfl hl (by decide) rfl (fun ls hl => ?_)
              refine lv_iload_n hx hb dX3_findFault_62 rfl (lv_at hl 0 rfl) ?_
              refine lv_bipush (v := (nI 96)) hx hb dX3_findFault_63 (by decide) ?_
              refine g_icmp_le (tgt := 75) (a := su + ((itF f n a).2.2.2.2)) (b := 96) hx hb (by omega) (by omega) dX3_findFault_65 (by decide) (fun c65 => ?_) (fun c65 => ?_)
              · refine lv_iinc (v := (nI (it + 1))) (lv' := [(3, .int (nI (it + 1))), (2, .int (nI (su + ((itF f n a).2.2.2.2)))), (4, .int (nI a)), (0, .ref t), (1, .int (oJ tm))]) hx hb dX3_findFault_75 hl (k := 4) rfl (g_inc it 1) (by decide) rfl (fun ls hl => ?_)
                refine lv_goto (tgt := 20) hx hb dX3_findFault_78 (by decide) ?_
                have e_1 : (oJ tm) = (oJ (if 96 < su + (itF f n a).2.2.2.2 ∧ tm = none then some a else tm)) := (by rw [if_neg (fun q => by omega)])
                have hl := lv_sub hl (l' := [(0, .ref t), (1, .int (oJ tm)), (2, .int (nI (su + ((itF f n a).2.2.2.2)))), (3, .int (nI (it + 1)))]) [3, 4, 1, 0] rfl
                rw [e_1] at hl
                exact ih_lp (it + 1) ((itF f n a).2.1) (su + (itF f n a).2.2.2.2) (if 96 < su + (itF f n a).2.2.2.2 ∧ tm = none then some a else tm) (by omega) (by omega) (by omega) (ct_s hct (by omega)) ((paF_s (by omega) (by omega) c47).trans hs) (by omega) τ_3 ⟨_, _, _, hTx⟩ hag hL H locs ls hz hP hS hl
              · refine lv_iload_n hx hb dX3_findFault_68 rfl (lv_at hl 3 rfl) ?_
                rcases htm : tm with _ | tk
                · refine g_top (y := (-1)) rfl ?_
                  refine lv_if_ge (tgt := 75) hx hb dX3_findFault_69 (by decide) (fun c69 => absurd c69 (by decide)) (fun c69 => ?_)
                  refine lv_iload hx hb dX3_findFault_72 (lv_at hl 1 rfl) ?_
                  refine lv_istore_n (lv' := [(1, .int (nI a)), (2, .int (nI (su + ((itF f n a).2.2.2.2)))), (4, .int (nI a)), (0, .ref t), (3, .int (nI it))]) hx hb dX3_findFault_74 rfl hl (by decide) rfl (fun ls hl => ?_)
                  refine lv_iinc (v := (nI (it + 1))) (lv' := [(3, .int (nI (it + 1))), (1, .int (nI a)), (2, .int (nI (su + ((itF f n a).2.2.2.2)))), (4, .int (nI a)), (0, .ref t)]) hx hb dX3_findFault_75 hl (k := 4) rfl (g_inc it 1) (by decide) rfl (fun ls hl => ?_)
                  refine lv_goto (tgt := 20) hx hb dX3_findFault_78 (by decide) ?_
                  have e_1 : (nI a) = (oJ (if 96 < su + (itF f n a).2.2.2.2 ∧ tm = none then some a else tm)) := (by rw [if_pos ⟨c65, htm⟩]; rfl)
                  have hl := lv_sub hl (l' := [(0, .ref t), (1, .int (nI a)), (2, .int (nI (su + ((itF f n a).2.2.2.2)))), (3, .int (nI (it + 1)))]) [4, 1, 2, 0] rfl
                  rw [e_1] at hl
                  exact ih_lp (it + 1) ((itF f n a).2.1) (su + (itF f n a).2.2.2.2) (if 96 < su + (itF f n a).2.2.2.2 ∧ tm = none then some a else tm) (by omega) (by omega) (by omega) (ct_s hct (by omega)) ((paF_s (by omega) (by omega) c47).trans hs) (by omega) τ_3 ⟨_, _, _, hTx⟩ hag hL H locs ls hz hP hS hl
                · refine g_top (y := (nI tk)) rfl ?_
                  have htk := hct tk htm
                  refine g_if_ge hx hb (by omega) dX3_findFault_69 (tgt := 75) (by decide) ?_
                  refine lv_iinc (v := (nI (it + 1))) (lv' := [(3, .int (nI (it + 1))), (2, .int (nI (su + ((itF f n a).2.2.2.2)))), (4, .int (nI a)), (0, .ref t), (1, .int (oJ tm))]) hx hb dX3_findFault_75 hl (k := 4) rfl (g_inc it 1) (by decide) rfl (fun ls hl => ?_)
                  refine lv_goto (tgt := 20) hx hb dX3_findFault_78 (by decide) ?_
                  have e_1 : (oJ tm) = (oJ (if 96 < su + (itF f n a).2.2.2.2 ∧ tm = none then some a else tm)) := (by rw [if_neg (fun q => by rw [htm] at q; cases q.2)])
                  have hl := lv_sub hl (l' := [(0, .ref t), (1, .int (oJ tm)), (2, .int (nI (su + ((itF f n a).2.2.2.2)))), (3, .int (nI (it + 1)))]) [3, 4, 1, 0] rfl
                  rw [e_1] at hl
                  exact ih_lp (it + 1) ((itF f n a).2.1) (su + (itF f n a).2.2.2.2) (if 96 < su + (itF f n a).2.2.2.2 ∧ tm = none then some a else tm) (by omega) (by omega) (by omega) (ct_s hct (by omega)) ((paF_s (by omega) (by omega) c47).trans hs) (by omega) τ_3 ⟨_, _, _, hTx⟩ hag hL H locs ls hz hP hS hl
            · refine lv_aload_n hx hb dX3_findFault_50 rfl (lv_at hl 1 rfl) ?_
              refine g_get (C := RX3) (T := TX3) (N := 6) hx hb hts hown hK hP hTx.c0 nX3_findFault_X3 rfl 2 (by decide) (by decide +kernel) rfl (v := .int (nI ((itF f n a).2.1))) rfl dX3_findFault_51 ?_
              exact g_iret (z := sz) hx hb hr hlk hz hP hL hS dX3_findFault_54 (gxi_i ⟨by rw [ffI, if_neg (by omega), ← hs, paF_f (by omega) (by omega) c47], rfl, ⟨_, _, _, _, hTx⟩, hag⟩)
    exact lp _ 0 0 0 none (by omega) (by omega) (by omega) (fun k2 hk2 => by cases hk2) rfl (Nat.lt_succ_self _) σ1 ⟨_, _, _, hTx⟩ hag hL H locs ls hz hP hS (lv_sub hl [3, 2, 1, 0] rfl)
  · refine lv_iconst (v := (nI 0)) hx hb dX3_findFault_7 (by decide) ?_
    exact g_iret (z := sz) hx hb hr hlk hz hP hL hS dX3_findFault_8 (gxi_i ⟨by rw [ffI, if_pos c4], rfl, ⟨_, _, _, _, hTx⟩, hag⟩)

theorem nX3_writeTo_X3 : ∀ w ∈ wsX30, w ∈ wsX3_writeTo := by decide +kernel
set_option maxHeartbeats 4000000 in
set_option maxRecDepth 100000 in
theorem c_X3_writeTo (l : Launch) (t x : Nat) (f : Nat → Int32) (n a : Nat) (so ld ti : Int32) (S : sS) (σ : gS) (sz : Nat) (hTx : TxAt σ t f n a so ld ti) (hSt : StAt σ x S) (hxt : x + 17 ≤ t ∨ t + 3 ≤ x) (hLn : n ≤ 60) (hB0 : sB S = 0) (hok : paF f n 60 0 0 none = -1) : gM l yX3_writeTo wsX3_writeTo ({ frames := 5, cells := 0, slots := 0, locals := 107 } : Room) 0 0 [.ref t, .ref x] σ sz (gxv (fun τ z => z = sz ∧ StAt τ x (wrF f n 60 0 S) ∧ (∃ (a2 : Nat) (so2 ld2 ti2 : Int32), TxAt τ t f n a2 so2 ld2 ti2) ∧ gAs (fun q => gZo x 17 q ∨ gZo t 3 q) σ τ)) := by
  refine gM_of (cc := cX3_writeTo) (maxL := 3) (ret := none) (by decide) rfl (Nat.le_of_ble_eq_true rfl) ?_
  intro D ka lo hL hlo p e s m below meth c hx hb hr hts hown hml hlk hnm hK H locs ls hz hP hS hl
  have hl : lv_has ls 3 [(0, .ref t), (1, .ref x)] := hl
  have hown : s.vm.findClass RX3 = some m.cls := hown
  have hag : gAs (fun q => gZo x 17 q ∨ gZo t 3 q) σ σ := gAs.rf
  refine lv_aload_n hx hb dX3_writeTo_0 rfl (lv_at hl 0 rfl) ?_
  refine lv_iconst (v := (nI 0)) hx hb dX3_writeTo_1 (by decide) ?_
  refine g_put (C := RX3) (T := TX3) (N := 6) hx hb hts hown hK hP hL hS hTx.c0 nX3_writeTo_X3 tyX3 tyX3_ok nmX3 rfl 2 (by decide) (by decide +kernel) rfl rfl (v := .int (nI 0)) rfl rfl (Nat.le_of_ble_eq_true rfl) dX3_writeTo_2 (fun H locs hq hP hL hS => ?_)
  have hz := hq.trans hz
  obtain ⟨σ1, e1⟩ : ∃ υ0 : gS, υ0 = gup σ t (gO 3 [.ref (t + 1), .int (nI n), .int (nI 0), .int so, .int ld, .int ti]) := ⟨_, rfl⟩
  have hP : gH D ka σ1 H := by rw [e1]; exact hP
  have hL : gL lo σ1 := by rw [e1]; exact hL
  have hSt := hSt.fr (τ := σ1) (fun q h1 h2 => gup_eq e1 (by omega))
  have hTx : TxAt σ1 t f n 0 so ld ti := by rw [e1]; exact hTx.p2 0
  have hag := hag.upe e1 (.inr (zo_0 (by decide)))
  refine lv_iconst (v := (nI 0)) hx hb dX3_writeTo_5 (by decide) ?_
  refine lv_istore_n (lv' := [(2, .int (nI 0)), (0, .ref t), (1, .ref x)]) hx hb dX3_writeTo_6 rfl hl (by decide) rfl (fun ls hl => ?_)
  have lp : ∀ (fu_lp : Nat) (it : Nat) (a : Nat) (V : sS), (it ≤ 60) → (a ≤ 70) → (paF f n (60 - it) a (sB V) none = -1) → (wrF f n (60 - it) a V = wrF f n 60 0 S) → (60 - it < fu_lp) → ∀ (υ : gS), (∃ (so2 ld2 ti2 : Int32), TxAt υ t f n a so2 ld2 ti2) → (StAt υ x V) → (gAs (fun q => gZo x 17 q ∨ gZo t 3 q) σ υ) → gL lo υ → ∀ (H : Heap) (locs : List Loc) (ls : Array Slot), H.size = sz → gH D ka υ H → va_S (gA lo) s.heap H locs → lv_has ls 3 [(0, .ref t), (1, .ref x), (2, .int (nI it))] → W p l e ({ frames := 5, cells := 0, slots := 0, locals := 107 } : Room) s m ([.ref t, .ref x] : List Value).toArray below meth c H locs (0) (0) (MQ below (gQ D ka lo (gxv (fun τ z => z = sz ∧ StAt τ x (wrF f n 60 0 S) ∧ (∃ (a2 : Nat) (so2 ld2 ti2 : Int32), TxAt τ t f n a2 so2 ld2 ti2) ∧ gAs (fun q => gZo x 17 q ∨ gZo t 3 q) σ τ))) ([.ref t, .ref x] : List Value).toArray s 0 0 (gA lo)) (F0 m 7 ls []) := by
    intro fu_lp
    induction fu_lp with
    | zero => intro it a V hit0 ha0 hp0 hs hm_lp; exact absurd hm_lp (Nat.not_lt_zero _)
    | succ fu_lp ih_lp =>
      intro it a V hit0 ha0 hp0 hs hm_lp υ hTx hSt hag hL H locs ls hz hP hS hl
      obtain ⟨so2, ld2, ti2, hTx⟩ := hTx
      have hit := itF_a (f := f) (n := n) (a := a)
      have hit2 := itF_t f n a
      refine lv_iload_n hx hb dX3_writeTo_7 rfl (lv_at hl 2 rfl) ?_
      refine lv_bipush (v := (nI 60)) hx hb dX3_writeTo_8 (by decide) ?_
      refine g_icmp_ge (tgt := 54) (a := it) (b := 60) hx hb (by omega) (by omega) dX3_writeTo_10 (by decide) (fun c10 => ?_) (fun c10 => ?_)
      · exact g_vret (z := sz) hx hb hr hlk hz hP hL hS dX3_writeTo_54 (gxv_i ⟨rfl, (by rw [wrF_e (by omega)] at hs; rw [← hs]; exact hSt), ⟨_, _, _, _, hTx⟩, hag⟩)
      · refine lv_aload_n hx hb dX3_writeTo_13 rfl (lv_at hl 0 rfl) ?_
        refine g_get (C := RX3) (T := TX3) (N := 6) hx hb hts hown hK hP hTx.c0 nX3_writeTo_X3 rfl 2 (by decide) (by decide +kernel) rfl (v := .int (nI a)) rfl dX3_writeTo_14 ?_
        refine lv_aload_n hx hb dX3_writeTo_17 rfl (lv_at hl 0 rfl) ?_
        refine g_get (C := RX3) (T := TX3) (N := 6) hx hb hts hown hK hP hTx.c0 nX3_writeTo_X3 rfl 1 (by decide) (by decide +kernel) rfl (v := .int (nI n)) rfl dX3_writeTo_18 ?_
        refine g_icmp_ge (tgt := 54) (a := a) (b := n) hx hb (by omega) (by omega) dX3_writeTo_21 (by decide) (fun c21 => ?_) (fun c21 => ?_)
        · exact g_vret (z := sz) hx hb hr hlk hz hP hL hS dX3_writeTo_54 (gxv_i ⟨rfl, (by rw [wrF_e (by omega)] at hs; rw [← hs]; exact hSt), ⟨_, _, _, _, hTx⟩, hag⟩)
        · have hpk := paF_ok hLn (by omega) (by omega) hp0
          refine lv_aload_n hx hb dX3_writeTo_24 rfl (lv_at hl 0 rfl) ?_
          refine g_runV (As := []) (rest := []) (own := RX3) (C := RX3) (T := TX3) (N := 6) 0 hx hb hml hown hts hK hz hP hL hS hlo hl.1 (c_X3_readItem l t f n a so2 ld2 ti2 υ sz hTx (by omega) (by omega)) gX3_writeTo_X3_readItem rfl rfl rfl (by decide +kernel) ⟨Nat.le_of_ble_eq_true rfl, Nat.le_of_ble_eq_true rfl⟩ hTx.c0 rfl rfl rfl (Nat.le_of_ble_eq_true rfl) dX3_writeTo_25 ⟨Nat.le_of_ble_eq_true rfl, Nat.le_of_ble_eq_true rfl⟩ (g_kxi0 (fun r_3 τ_3 H locs z1 hz hp hP hL hS => ?_))
          obtain ⟨hr_3, hz1, so_3, ld_3, ti_3, hn_3, ht_3, ha_3⟩ := hp
          have hz := hz.trans hz1
          have hSt := hSt.fr (τ := τ_3) (fun q h1 h2 => ha_3 q (fun h => by have h3 := h.1; have h4 := h.2; omega))
          have hTx := hn_3
          have hag := hag.tr ha_3 (fun q h => .inr h)
          subst hr_3
          refine g_ifb_ne (tgt := 32) hx hb dX3_writeTo_28 (by decide) (fun c28 => ?_) (fun c28 => ?_)
          · refine lv_aload_n hx hb dX3_writeTo_32 rfl (lv_at hl 1 rfl) ?_
            refine lv_aload_n hx hb dX3_writeTo_33 rfl (lv_at hl 0 rfl) ?_
            refine g_get (C := RX3) (T := TX3) (N := 6) hx hb hts hown hK hP hTx.c0 nX3_writeTo_X3 rfl 3 (by decide) (by decide +kernel) rfl (v := .int so_3) rfl dX3_writeTo_34 ?_
            refine g_top (y := ((itF f n a).2.2.1)) ((ht_3 c28).1) ?_
            refine lv_aload_n hx hb dX3_writeTo_37 rfl (lv_at hl 0 rfl) ?_
            refine g_get (C := RX3) (T := TX3) (N := 6) hx hb hts hown hK hP hTx.c0 nX3_writeTo_X3 rfl 4 (by decide) (by decide +kernel) rfl (v := .int ld_3) rfl dX3_writeTo_38 ?_
            refine g_top (y := ((itF f n a).2.2.2.1)) ((ht_3 c28).2.1) ?_
            refine lv_aload_n hx hb dX3_writeTo_41 rfl (lv_at hl 0 rfl) ?_
            refine g_get (C := RX3) (T := TX3) (N := 6) hx hb hts hown hK hP hTx.c0 nX3_writeTo_X3 rfl 5 (by decide) (by decide +kernel) rfl (v := .int ti_3) rfl dX3_writeTo_42 ?_
            refine g_top (y := (nI ((itF f n a).2.2.2.2))) ((ht_3 c28).2.2) ?_
            refine g_runV (As := [.int ((itF f n a).2.2.1), .int ((itF f n a).2.2.2.1), .int (nI ((itF f n a).2.2.2.2))]) (rest := []) (own := RX3) (C := RX4) (T := TX4) (N := 13) 3 hx hb hml hown hts hK hz hP hL hS hlo hl.1 (c_X4_appendBeats l x V (((itF f n a).2.2.1)) (((itF f n a).2.2.2.1)) ((itF f n a).2.2.2.2) τ_3 sz hSt (by omega)) gX3_writeTo_X4_appendBeats rfl rfl rfl (by decide +kernel) ⟨Nat.le_of_ble_eq_true rfl, Nat.le_of_ble_eq_true rfl⟩ hSt.c0 rfl rfl rfl (Nat.le_of_ble_eq_true rfl) dX3_writeTo_45 ⟨Nat.le_of_ble_eq_true rfl, Nat.le_of_ble_eq_true rfl⟩ (g_kxv0 (fun τ_4 H locs z1 hz hp hP hL hS => ?_))
            obtain ⟨hz1, h_5n, h_5a⟩ := hp
            have hz := hz.trans hz1
            have hTx := hTx.fr (τ := τ_4) (fun q h1 h2 => h_5a q (fun h => by have h3 := h.1; have h4 := h.2; omega))
            have hSt := h_5n
            have hag := hag.tr h_5a (fun q h => .inl h)
            refine lv_iinc (v := (nI (it + 1))) (lv' := [(2, .int (nI (it + 1))), (0, .ref t), (1, .ref x)]) hx hb dX3_writeTo_48 hl (k := 2) rfl (g_inc it 1) (by decide) rfl (fun ls hl => ?_)
            refine lv_goto (tgt := 7) hx hb dX3_writeTo_51 (by decide) ?_
            exact ih_lp (it + 1) ((itF f n a).2.1) (appF V (itF f n a).2.2.1 (itF f n a).2.2.2.1 (itF f n a).2.2.2.2) (by omega) (by omega) (by rw [appF_B _ _ _ _ (by omega)]; exact hpk.2.2) ((wrF_s (by omega) (by omega) hpk.1).trans hs) (by omega) τ_4 ⟨_, _, _, hTx⟩ hSt hag hL H locs ls hz hP hS (lv_sub hl [1, 2, 0] rfl)
          · exact absurd hpk.1 (by rw [c28]; decide)
  exact lp _ 0 0 S (by omega) (by omega) (by rw [hB0]; exact hok) rfl (Nat.lt_succ_self _) σ1 ⟨_, _, _, hTx⟩ hSt hag hL H locs ls hz hP hS (lv_sub hl [1, 2, 0] rfl)
