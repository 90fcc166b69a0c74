/-! the reference lives through the beats -/
theorem les_eq (a b : Int32) : (if a < b then a else b) = (if b < a then b else a) := by
  by_cases h : a < b
  · rw [if_pos h, if_neg (fun q => Int32.lt_irrefl (Int32.lt_trans h q))]
  · rw [if_neg h]
    by_cases h2 : b < a
    · rw [if_pos h2]
    · rw [if_neg h2]; exact Int32.le_antisymm (Int32.not_lt.mp h2 |> fun x => Int32.not_lt.mp h) (Int32.not_lt.mp h2)
def LvD (S A : sS) (i b : Nat) : Prop := ∀ i2 b2 : Nat, b2 < sB S → (i2 < i ∨ (i2 = i ∧ b2 < b)) → A 10 (96 * i2 + b2) = nI (dosQ S i2 b2) ∧ A 11 (96 * i2 + b2) = leftF S i2 (S 3 i2) (b2 + 1)
abbrev livA (S A : sS) (i b : Nat) : sS := sRow (sRow A 10 (upd (A 10) (96 * i + b) (nI (doN S i b (laI S A i b))))) 11 (upd (A 11) (96 * i + b) (gtF S b (fun i => laI S A i b) i))
theorem LvD.la {S A : sS} {i b : Nat} (h : LvD S A i b) (hb : b < sB S) : laI S A i b = leftF S i (S 3 i) b := by
  rw [laI]
  by_cases c : b = 0
  · rw [if_pos c, c]; rfl
  · rw [if_neg c]
    have := (h i (b - 1) (by omega) (Or.inr ⟨rfl, by omega⟩)).2
    rw [show 96 * i + b - 1 = 96 * i + (b - 1) by omega, this, show b - 1 + 1 = b by omega]
theorem LvD.step {S A : sS} {i b : Nat} (h : LvD S A i b) (hb : b < sB S) (hB : sB S ≤ 96) : LvD S (livA S A i b) i (b + 1) := by
  intro i2 b2 hb2 hc
  have e10 : livA S A i b 10 = upd (A 10) (96 * i + b) (nI (doN S i b (laI S A i b))) := rfl
  have e11 : livA S A i b 11 = upd (A 11) (96 * i + b) (gtF S b (fun i => laI S A i b) i) := rfl
  rw [e10, e11]
  by_cases c : i2 = i ∧ b2 = b
  · obtain ⟨c1, c2⟩ := c
    subst c1; subst c2
    rw [upd_s, upd_s, h.la hb]
    refine ⟨rfl, ?_⟩
    rw [gtF, h.la hb]
    rfl
  · rw [upd_n (by omega), upd_n (by omega)]
    exact h i2 b2 hb2 (by omega)
theorem LvD.nxt {S A : sS} {i : Nat} (h : LvD S A i (sB S)) : LvD S A (i + 1) 0 := fun i2 b2 hb2 hc => h i2 b2 hb2 (by omega)
theorem MeP.scr {A A2 S : sS} {tf : Nat → Int32} {tn P : Nat} {C : Nat → sS} {kp : Nat → Bool} (h : MeP A S tf tn P C kp) (hj : ∀ j : Nat, j ≤ 6 → j ≠ 2 → A2 j = A j) : MeP A2 S tf tn P C kp := by
  obtain ⟨h1, h2, h3, h4, h5, h6, h7, h8, h9⟩ := h
  exact ⟨by show (A2 0 0).toNatClampNeg = P; rw [hj 0 (by decide) (by decide)]; exact h1, by show (A2 0 1).toNatClampNeg = tn; rw [hj 0 (by decide) (by decide)]; exact h2, by rw [hj 1 (by decide) (by decide)]; exact h3, fun k hk => by rw [hj 3 (by decide) (by decide)]; exact h4 k hk, fun k hk hq => by rw [hj 4 (by decide) (by decide)]; exact h5 k hk hq, fun k hk => by rw [hj 5 (by decide) (by decide)]; exact h6 k hk, fun j hj2 => by rw [hj 6 (by decide) (by decide)]; exact h7 j hj2, h8, h9⟩
/-- the members of a group, one by one -/
theorem hb_grp (S : sS) (q b : Nat) : ∀ n i, n ≤ 12 → i < 32 → hasB (grpI S q b n) i = (decide (i < n) && decide (dosQ S i b = q))
  | 0, i, _, _ => by rw [grpI, hb_0, decide_eq_false (Nat.not_lt_zero i), Bool.false_and]
  | n + 1, i, hn, hi => by
    rw [grpI]
    by_cases c : dosQ S n b = q
    · rw [if_pos c, hb_or (by omega) hi, hb_grp S q b n i (by omega) hi]
      by_cases c2 : n = i
      · subst c2
        rw [decide_eq_true (rfl : n = n), decide_eq_true c, decide_eq_true (Nat.lt_succ_self n), Bool.or_true]; rfl
      · have e : decide (i < n + 1) = decide (i < n) := decide_eq_decide.mpr ⟨fun h => by omega, fun h => by omega⟩
        rw [decide_eq_false (p := n = i) c2, Bool.or_false, e]
    · rw [if_neg c, hb_grp S q b n i (by omega) hi]
      by_cases c2 : n = i
      · subst c2
        rw [decide_eq_false (p := dosQ S n b = q) c, Bool.and_false, Bool.and_false]
      · have e : decide (i < n + 1) = decide (i < n) := decide_eq_decide.mpr ⟨fun h => by omega, fun h => by omega⟩
        rw [e]
theorem smB_grp {S : sS} {q b n : Nat} (hn : n ≤ 12) : smB (grpI S q b n) n := fun s h1 h2 => by
  rw [hb_grp S q b n s hn h2, decide_eq_false (by omega), Bool.false_and]
theorem nIq {d q : Nat} (hd : d < 4) (hq : q < 4) : (nI d = nI q) ↔ d = q := by
  constructor
  · intro h
    have := congrArg Int32.toNatClampNeg h
    rwa [nI_clamp (by omega), nI_clamp (by omega)] at this
  · intro h; rw [h]
theorem bc_ch {S : sS} {q b : Nat} (hb : b < sB S) (hN : sN S ≤ 12) (hq : q < 4) : bcI (chR S q b) = nI (cntF (fun i => decide (nI (dosQ S i b) = nI q)) (sN S)) := by
  have e : chR S q b = grpI S q b (sN S) := if_pos hb
  rw [e, bcI_n (smB_grp hN) hN]
  congr 1
  apply cntF_c
  intro i hi
  rw [hb_grp S q b (sN S) i hN (by omega), decide_eq_true hi, Bool.true_and]
  exact decide_eq_decide.mpr (nIq (dosF_lt _ _ _ _) hq).symm
theorem nX8_live_X8 : ∀ w ∈ wsX80, w ∈ wsX8_live := by decide +kernel
set_option maxHeartbeats 4000000 in
set_option maxRecDepth 100000 in
theorem c_X8_live (l : Launch) (mo : Nat) (A S : sS) (i b : Nat) (σ : gS) (sz : Nat) (hMo : MoAt σ mo A) (hR : Rr S (A 1)) (hi0 : i < sN S) (hN : sN S ≤ 12) (hb0 : b < sB S) (hB : sB S ≤ 96) (hKs : sK S ≤ 8) : gM l yX8_live wsX8_live ({ frames := 3, cells := 0, slots := 0, locals := 67 } : Room) 0 0 [.ref mo, .int (nI i), .int (nI b)] σ sz (gxv (fun τ n => n = sz ∧ MoAt τ mo (livA S A i b) ∧ gAs (gZo mo 16) σ τ)) := by
  refine gM_of (cc := cX8_live) (maxL := 5) (ret := none) (by decide) rfl (Nat.le_of_ble_eq_true rfl) ?_
  intro D ka lo hL hlo p e s m below meth c hx hb hr hts hown hml hlk hnm hK H locs ls hz hP hS hl
  have hl : lv_has ls 5 [(0, .ref mo), (1, .int (nI i)), (2, .int (nI b))] := hl
  have hown : s.vm.findClass RX8 = some m.cls := hown
  have hag : gAs (gZo mo 16) σ σ := gAs.rf
  refine lv_aload_n hx hb dX8_live_0 rfl (lv_at hl 0 rfl) ?_
  refine lv_iload_n hx hb dX8_live_1 rfl (lv_at hl 1 rfl) ?_
  refine lv_iload_n hx hb dX8_live_2 rfl (lv_at hl 2 rfl) ?_
  refine g_runV (As := [.int (nI i), .int (nI b)]) (rest := []) (own := RX8) (C := RX8) (T := TX8) (N := 20) 2 hx hb hml hown hts hK hz hP hL hS hlo hl.1 (c_X8_leftAhead l mo A S i b σ sz hMo hR (by omega) (by omega) (by omega) (by omega)) gX8_live_X8_leftAhead rfl rfl rfl (by decide +kernel) ⟨Nat.le_of_ble_eq_true rfl, Nat.le_of_ble_eq_true rfl⟩ hMo.c0 rfl rfl rfl (Nat.le_of_ble_eq_true rfl) dX8_live_3 ⟨Nat.le_of_ble_eq_true rfl, Nat.le_of_ble_eq_true rfl⟩ (g_ki0 (fun H locs hz hP hL hS => ?_))
  refine lv_istore_n (lv' := [(3, .int (laI S A i b)), (0, .ref mo), (1, .int (nI i)), (2, .int (nI b))]) hx hb dX8_live_6 rfl hl (by decide) rfl (fun ls hl => ?_)
  refine lv_aload_n hx hb dX8_live_7 rfl (lv_at hl 1 rfl) ?_
  refine lv_iload_n hx hb dX8_live_8 rfl (lv_at hl 2 rfl) ?_
  refine lv_iload_n hx hb dX8_live_9 rfl (lv_at hl 3 rfl) ?_
  refine g_runV (As := [.int (nI i), .int (nI b)]) (rest := []) (own := RX8) (C := RX8) (T := TX8) (N := 20) 2 hx hb hml hown hts hK hz hP hL hS hlo hl.1 (c_X8_hasTo l mo A S i b σ sz hMo hR (by omega) (by omega) (by omega) (by omega) (by omega)) gX8_live_X8_hasTo rfl rfl rfl (by decide +kernel) ⟨Nat.le_of_ble_eq_true rfl, Nat.le_of_ble_eq_true rfl⟩ hMo.c0 rfl rfl rfl (Nat.le_of_ble_eq_true rfl) dX8_live_10 ⟨Nat.le_of_ble_eq_true rfl, Nat.le_of_ble_eq_true rfl⟩ (g_ki0 (fun H locs hz hP hL hS => ?_))
  refine g_ifb_ne (tgt := 20) hx hb dX8_live_13 (by decide) (fun c13 => ?_) (fun c13 => ?_)
  · refine lv_aload_n hx hb dX8_live_20 rfl (lv_at hl 1 rfl) ?_
    refine lv_iload_n hx hb dX8_live_21 rfl (lv_at hl 2 rfl) ?_
    refine lv_iload_n hx hb dX8_live_22 rfl (lv_at hl 3 rfl) ?_
    refine g_runV (As := [.int (nI i), .int (nI b)]) (rest := []) (own := RX8) (C := RX8) (T := TX8) (N := 20) 2 hx hb hml hown hts hK hz hP hL hS hlo hl.1 (c_X8_isMarked l mo A S i b σ sz hMo hR (by omega) (by omega) (by omega) (by omega)) gX8_live_X8_isMarked rfl rfl rfl (by decide +kernel) ⟨Nat.le_of_ble_eq_true rfl, Nat.le_of_ble_eq_true rfl⟩ hMo.c0 rfl rfl rfl (Nat.le_of_ble_eq_true rfl) dX8_live_23 ⟨Nat.le_of_ble_eq_true rfl, Nat.le_of_ble_eq_true rfl⟩ (g_ki0 (fun H locs hz hP hL hS => ?_))
    refine g_ifb_eq (tgt := 33) hx hb dX8_live_26 (by decide) (fun c26 => ?_) (fun c26 => ?_)
    · refine lv_iload_n hx hb dX8_live_33 rfl (lv_at hl 0 rfl) ?_
      refine lv_aload_n hx hb dX8_live_34 rfl (lv_at hl 1 rfl) ?_
      refine lv_iload_n hx hb dX8_live_35 rfl (lv_at hl 3 rfl) ?_
      refine g_runV (As := [.int (nI b)]) (rest := [.int (laI S A i b)]) (own := RX8) (C := RX8) (T := TX8) (N := 20) 1 hx hb hml hown hts hK hz hP hL hS hlo hl.1 (c_X8_loud l mo A S b σ sz hMo hR (by omega) (by omega)) gX8_live_X8_loud rfl rfl rfl (by decide +kernel) ⟨Nat.le_of_ble_eq_true rfl, Nat.le_of_ble_eq_true rfl⟩ hMo.c0 rfl rfl rfl (Nat.le_of_ble_eq_true rfl) dX8_live_36 ⟨Nat.le_of_ble_eq_true rfl, Nat.le_of_ble_eq_true rfl⟩ (g_ki0 (fun H locs hz hP hL hS => ?_))
      refine lv_icmp_ge (tgt := 46) hx hb dX8_live_39 (by decide) (fun c39 => ?_) (fun c39 => ?_)
      · refine lv_iconst (v := (nI 0)) hx hb dX8_live_46 (by decide) ?_
        refine g_top (y := (nI (doN S i b (laI S A i b)))) (congrArg nI (by rw [doN, if_pos c13, if_neg (nb c26), if_neg (by first | exact Int32.not_lt.mpr c39 | exact c39)])) ?_
        have hd4 := doN_lt S i b (laI S A i b)
        refine lv_istore (lv' := [(4, .int (nI (doN S i b (laI S A i b)))), (3, .int (laI S A i b)), (0, .ref mo), (1, .int (nI i)), (2, .int (nI b))]) hx hb dX8_live_47 hl (by decide) rfl (fun ls hl => ?_)
        refine lv_aload_n hx hb dX8_live_49 rfl (lv_at hl 2 rfl) ?_
        refine g_get (C := RX8) (T := TX8) (N := 20) hx hb hts hown hK hP hMo.c0 nX8_live_X8 rfl 13 (by decide) (by decide +kernel) rfl (v := .ref (mo + 10)) rfl dX8_live_50 ?_
        refine lv_bipush (v := (nI 96)) hx hb dX8_live_53 (by decide) ?_
        refine lv_iload_n hx hb dX8_live_55 rfl (lv_at hl 3 rfl) ?_
        refine lv_imul hx hb dX8_live_56 ?_
        refine g_top (pk_mul 96 i) ?_
        refine lv_iload_n hx hb dX8_live_57 rfl (lv_at hl 4 rfl) ?_
        refine lv_iadd hx hb dX8_live_58 ?_
        refine g_top (nI_add (96 * i) b) ?_
        refine lv_iload hx hb dX8_live_59 (lv_at hl 0 rfl) ?_
        refine g_iast hx hb hK hP hL hS hMo.c10 (i := nI ((96 * i) + b)) (vp_in_nI (by omega) (by omega)) dX8_live_61 (fun H locs hq hP hL hS => ?_)
        rw [nI_clamp (n := (96 * i) + b) (by omega)] at hP hL
        have hz := hq.trans hz
        obtain ⟨σ1, e1⟩ : ∃ υ0 : gS, υ0 = gup σ (mo + 10) (gI 1152 (upd (A 10) ((96 * i) + b) ((nI (doN S i b (laI S A i b)))))) := ⟨_, rfl⟩
        have hP : gH D ka σ1 H := by rw [e1]; exact hP
        have hL : gL lo σ1 := by rw [e1]; exact hL
        have hMo : MoAt σ1 mo (sRow A 10 (upd (A 10) ((96 * i) + b) ((nI (doN S i b (laI S A i b)))))) := by rw [e1]; exact hMo.w10 (upd (A 10) ((96 * i) + b) ((nI (doN S i b (laI S A i b)))))
        have hag := hag.upe e1 (zo_k (by decide))
        refine lv_aload_n hx hb dX8_live_62 rfl (lv_at hl 2 rfl) ?_
        refine g_get (C := RX8) (T := TX8) (N := 20) hx hb hts hown hK hP hMo.c0 nX8_live_X8 rfl 14 (by decide) (by decide +kernel) rfl (v := .ref (mo + 11)) rfl dX8_live_63 ?_
        refine lv_bipush (v := (nI 96)) hx hb dX8_live_66 (by decide) ?_
        refine lv_iload_n hx hb dX8_live_68 rfl (lv_at hl 3 rfl) ?_
        refine lv_imul hx hb dX8_live_69 ?_
        refine g_top (pk_mul 96 i) ?_
        refine lv_iload_n hx hb dX8_live_70 rfl (lv_at hl 4 rfl) ?_
        refine lv_iadd hx hb dX8_live_71 ?_
        refine g_top (nI_add (96 * i) b) ?_
        refine lv_iload hx hb dX8_live_72 (lv_at hl 0 rfl) ?_
        refine g_if_ne (tgt := 87) hx hb (by omega) dX8_live_74 (by decide) (fun c74 => ?_) (fun c74 => ?_)
        · refine lv_aload_n hx hb dX8_live_87 rfl (lv_at hl 2 rfl) ?_
          refine lv_iload_n hx hb dX8_live_88 rfl (lv_at hl 3 rfl) ?_
          refine lv_iconst (v := (nI 0)) hx hb dX8_live_89 (by decide) ?_
          refine g_runV (As := [.int (nI i), .int (nI 0)]) (rest := [.int (nI ((96 * i) + b)), .ref (mo + 11)]) (own := RX8) (C := RX8) (T := TX8) (N := 20) 2 hx hb hml hown hts hK hz hP hL hS hlo hl.1 (c_X8_of l mo (sRow A 10 (upd (A 10) ((96 * i) + b) ((nI (doN S i b (laI S A i b)))))) S i 0 σ1 sz hMo hR (by omega) (by omega) (by omega)) gX8_live_X8_of rfl rfl rfl (by decide +kernel) ⟨Nat.le_of_ble_eq_true rfl, Nat.le_of_ble_eq_true rfl⟩ hMo.c0 rfl rfl rfl (Nat.le_of_ble_eq_true rfl) dX8_live_90 ⟨Nat.le_of_ble_eq_true rfl, Nat.le_of_ble_eq_true rfl⟩ (g_ki0 (fun H locs hz hP hL hS => ?_))
          refine lv_iload_n hx hb dX8_live_93 rfl (lv_at hl 1 rfl) ?_
          refine lv_aload_n hx hb dX8_live_94 rfl (lv_at hl 2 rfl) ?_
          refine lv_iload_n hx hb dX8_live_95 rfl (lv_at hl 3 rfl) ?_
          refine lv_iconst (v := (nI 1)) hx hb dX8_live_96 (by decide) ?_
          refine g_runV (As := [.int (nI i), .int (nI 1)]) (rest := [.int (laI S A i b), .int (S 3 i), .int (nI ((96 * i) + b)), .ref (mo + 11)]) (own := RX8) (C := RX8) (T := TX8) (N := 20) 2 hx hb hml hown hts hK hz hP hL hS hlo hl.1 (c_X8_of l mo (sRow A 10 (upd (A 10) ((96 * i) + b) ((nI (doN S i b (laI S A i b)))))) S i 1 σ1 sz hMo hR (by omega) (by omega) (by omega)) gX8_live_X8_of rfl rfl rfl (by decide +kernel) ⟨Nat.le_of_ble_eq_true rfl, Nat.le_of_ble_eq_true rfl⟩ hMo.c0 rfl rfl rfl (Nat.le_of_ble_eq_true rfl) dX8_live_97 ⟨Nat.le_of_ble_eq_true rfl, Nat.le_of_ble_eq_true rfl⟩ (g_ki0 (fun H locs hz hP hL hS => ?_))
          refine lv_iadd hx hb dX8_live_100 ?_
          refine g_runS (As := [.int (S 3 i), .int ((laI S A i b) + (S 4 i))]) (rest := [.int (nI ((96 * i) + b)), .ref (mo + 11)]) (own := RX8) 2 hx hb hml hown hts hK hz hP hL hS hlo hl.1 (c_X8_lesser l ((S 3 i)) (((laI S A i b) + (S 4 i))) σ1 sz) gX8_live_X8_lesser rfl rfl rfl (by decide +kernel) ⟨Nat.le_of_ble_eq_true rfl, Nat.le_of_ble_eq_true rfl⟩ rfl rfl (Nat.le_of_ble_eq_true rfl) dX8_live_101 ⟨Nat.le_of_ble_eq_true rfl, Nat.le_of_ble_eq_true rfl⟩ (g_ki0 (fun H locs hz hP hL hS => ?_))
          refine g_top (y := (gtF S b (fun i => laI S A i b) i)) (by show _ = (if doN S i b (laI S A i b) = 0 then laI S A i b - S 1 b else if laI S A i b + S 4 i < S 3 i then laI S A i b + S 4 i else S 3 i); rw [if_neg (c := doN S i b (laI S A i b) = 0) (by omega), les_eq]) ?_
          refine g_iast hx hb hK hP hL hS hMo.c11 (i := nI ((96 * i) + b)) (vp_in_nI (by omega) (by omega)) dX8_live_104 (fun H locs hq hP hL hS => ?_)
          rw [nI_clamp (n := (96 * i) + b) (by omega)] at hP hL
          have hz := hq.trans hz
          obtain ⟨σ2, e2⟩ : ∃ υ0 : gS, υ0 = gup σ1 (mo + 11) (gI 1152 (upd ((sRow A 10 (upd (A 10) ((96 * i) + b) ((nI (doN S i b (laI S A i b)))))) 11) ((96 * i) + b) ((gtF S b (fun i => laI S A i b) i)))) := ⟨_, rfl⟩
          have hP : gH D ka σ2 H := by rw [e2]; exact hP
          have hL : gL lo σ2 := by rw [e2]; exact hL
          have hMo : MoAt σ2 mo (sRow (sRow A 10 (upd (A 10) ((96 * i) + b) ((nI (doN S i b (laI S A i b)))))) 11 (upd ((sRow A 10 (upd (A 10) ((96 * i) + b) ((nI (doN S i b (laI S A i b)))))) 11) ((96 * i) + b) ((gtF S b (fun i => laI S A i b) i)))) := by rw [e2]; exact hMo.w11 (upd ((sRow A 10 (upd (A 10) ((96 * i) + b) ((nI (doN S i b (laI S A i b)))))) 11) ((96 * i) + b) ((gtF S b (fun i => laI S A i b) i)))
          have hag := hag.upe e2 (zo_k (by decide))
          exact g_vret (z := sz) hx hb hr hlk hz hP hL hS dX8_live_105 (gxv_i ⟨rfl, hMo, hag⟩)
        · refine lv_iload_n hx hb dX8_live_77 rfl (lv_at hl 1 rfl) ?_
          refine lv_aload_n hx hb dX8_live_78 rfl (lv_at hl 2 rfl) ?_
          refine lv_iload_n hx hb dX8_live_79 rfl (lv_at hl 4 rfl) ?_
          refine g_runV (As := [.int (nI b)]) (rest := [.int (laI S A i b), .int (nI ((96 * i) + b)), .ref (mo + 11)]) (own := RX8) (C := RX8) (T := TX8) (N := 20) 1 hx hb hml hown hts hK hz hP hL hS hlo hl.1 (c_X8_loud l mo (sRow A 10 (upd (A 10) ((96 * i) + b) ((nI (doN S i b (laI S A i b)))))) S b σ1 sz hMo hR (by omega) (by omega)) gX8_live_X8_loud rfl rfl rfl (by decide +kernel) ⟨Nat.le_of_ble_eq_true rfl, Nat.le_of_ble_eq_true rfl⟩ hMo.c0 rfl rfl rfl (Nat.le_of_ble_eq_true rfl) dX8_live_80 ⟨Nat.le_of_ble_eq_true rfl, Nat.le_of_ble_eq_true rfl⟩ (g_ki0 (fun H locs hz hP hL hS => ?_))
          refine lv_isub hx hb dX8_live_83 ?_
          refine lv_goto (tgt := 104) hx hb dX8_live_84 (by decide) ?_
          refine g_top (y := (gtF S b (fun i => laI S A i b) i)) (by show _ = (if doN S i b (laI S A i b) = 0 then laI S A i b - S 1 b else if laI S A i b + S 4 i < S 3 i then laI S A i b + S 4 i else S 3 i); rw [if_pos (by omega)]) ?_
          refine g_iast hx hb hK hP hL hS hMo.c11 (i := nI ((96 * i) + b)) (vp_in_nI (by omega) (by omega)) dX8_live_104 (fun H locs hq hP hL hS => ?_)
          rw [nI_clamp (n := (96 * i) + b) (by omega)] at hP hL
          have hz := hq.trans hz
          obtain ⟨σ3, e3⟩ : ∃ υ0 : gS, υ0 = gup σ1 (mo + 11) (gI 1152 (upd ((sRow A 10 (upd (A 10) ((96 * i) + b) ((nI (doN S i b (laI S A i b)))))) 11) ((96 * i) + b) ((gtF S b (fun i => laI S A i b) i)))) := ⟨_, rfl⟩
          have hP : gH D ka σ3 H := by rw [e3]; exact hP
          have hL : gL lo σ3 := by rw [e3]; exact hL
          have hMo : MoAt σ3 mo (sRow (sRow A 10 (upd (A 10) ((96 * i) + b) ((nI (doN S i b (laI S A i b)))))) 11 (upd ((sRow A 10 (upd (A 10) ((96 * i) + b) ((nI (doN S i b (laI S A i b)))))) 11) ((96 * i) + b) ((gtF S b (fun i => laI S A i b) i)))) := by rw [e3]; exact hMo.w11 (upd ((sRow A 10 (upd (A 10) ((96 * i) + b) ((nI (doN S i b (laI S A i b)))))) 11) ((96 * i) + b) ((gtF S b (fun i => laI S A i b) i)))
          have hag := hag.upe e3 (zo_k (by decide))
          exact g_vret (z := sz) hx hb hr hlk hz hP hL hS dX8_live_105 (gxv_i ⟨rfl, hMo, hag⟩)
      · refine lv_iconst (v := (nI 2)) hx hb dX8_live_42 (by decide) ?_
        refine lv_goto (tgt := 47) hx hb dX8_live_43 (by decide) ?_
        refine g_top (y := (nI (doN S i b (laI S A i b)))) (congrArg nI (by rw [doN, if_pos c13, if_neg (nb c26), if_pos (by first | exact c39 | exact Int32.not_le.mp c39)])) ?_
        have hd4 := doN_lt S i b (laI S A i b)
        refine lv_istore (lv' := [(4, .int (nI (doN S i b (laI S A i b)))), (3, .int (laI S A i b)), (0, .ref mo), (1, .int (nI i)), (2, .int (nI b))]) hx hb dX8_live_47 hl (by decide) rfl (fun ls hl => ?_)
        refine lv_aload_n hx hb dX8_live_49 rfl (lv_at hl 2 rfl) ?_
        refine g_get (C := RX8) (T := TX8) (N := 20) hx hb hts hown hK hP hMo.c0 nX8_live_X8 rfl 13 (by decide) (by decide +kernel) rfl (v := .ref (mo + 10)) rfl dX8_live_50 ?_
        refine lv_bipush (v := (nI 96)) hx hb dX8_live_53 (by decide) ?_
        refine lv_iload_n hx hb dX8_live_55 rfl (lv_at hl 3 rfl) ?_
        refine lv_imul hx hb dX8_live_56 ?_
        refine g_top (pk_mul 96 i) ?_
        refine lv_iload_n hx hb dX8_live_57 rfl (lv_at hl 4 rfl) ?_
        refine lv_iadd hx hb dX8_live_58 ?_
        refine g_top (nI_add (96 * i) b) ?_
        refine lv_iload hx hb dX8_live_59 (lv_at hl 0 rfl) ?_
        refine g_iast hx hb hK hP hL hS hMo.c10 (i := nI ((96 * i) + b)) (vp_in_nI (by omega) (by omega)) dX8_live_61 (fun H locs hq hP hL hS => ?_)
        rw [nI_clamp (n := (96 * i) + b) (by omega)] at hP hL
        have hz := hq.trans hz
        obtain ⟨σ4, e4⟩ : ∃ υ0 : gS, υ0 = gup σ (mo + 10) (gI 1152 (upd (A 10) ((96 * i) + b) ((nI (doN S i b (laI S A i b)))))) := ⟨_, rfl⟩
        have hP : gH D ka σ4 H := by rw [e4]; exact hP
        have hL : gL lo σ4 := by rw [e4]; exact hL
        have hMo : MoAt σ4 mo (sRow A 10 (upd (A 10) ((96 * i) + b) ((nI (doN S i b (laI S A i b)))))) := by rw [e4]; exact hMo.w10 (upd (A 10) ((96 * i) + b) ((nI (doN S i b (laI S A i b)))))
        have hag := hag.upe e4 (zo_k (by decide))
        refine lv_aload_n hx hb dX8_live_62 rfl (lv_at hl 2 rfl) ?_
        refine g_get (C := RX8) (T := TX8) (N := 20) hx hb hts hown hK hP hMo.c0 nX8_live_X8 rfl 14 (by decide) (by decide +kernel) rfl (v := .ref (mo + 11)) rfl dX8_live_63 ?_
        refine lv_bipush (v := (nI 96)) hx hb dX8_live_66 (by decide) ?_
        refine lv_iload_n hx hb dX8_live_68 rfl (lv_at hl 3 rfl) ?_
        refine lv_imul hx hb dX8_live_69 ?_
        refine g_top (pk_mul 96 i) ?_
        refine lv_iload_n hx hb dX8_live_70 rfl (lv_at hl 4 rfl) ?_
        refine lv_iadd hx hb dX8_live_71 ?_
        refine g_top (nI_add (96 * i) b) ?_
        refine lv_iload hx hb dX8_live_72 (lv_at hl 0 rfl) ?_
        refine g_if_ne (tgt := 87) hx hb (by omega) dX8_live_74 (by decide) (fun c74 => ?_) (fun c74 => ?_)
        · refine lv_aload_n hx hb dX8_live_87 rfl (lv_at hl 2 rfl) ?_
          refine lv_iload_n hx hb dX8_live_88 rfl (lv_at hl 3 rfl) ?_
          refine lv_iconst (v := (nI 0)) hx hb dX8_live_89 (by decide) ?_
          refine g_runV (As := [.int (nI i), .int (nI 0)]) (rest := [.int (nI ((96 * i) + b)), .ref (mo + 11)]) (own := RX8) (C := RX8) (T := TX8) (N := 20) 2 hx hb hml hown hts hK hz hP hL hS hlo hl.1 (c_X8_of l mo (sRow A 10 (upd (A 10) ((96 * i) + b) ((nI (doN S i b (laI S A i b)))))) S i 0 σ4 sz hMo hR (by omega) (by omega) (by omega)) gX8_live_X8_of rfl rfl rfl (by decide +kernel) ⟨Nat.le_of_ble_eq_true rfl, Nat.le_of_ble_eq_true rfl⟩ hMo.c0 rfl rfl rfl (Nat.le_of_ble_eq_true rfl) dX8_live_90 ⟨Nat.le_of_ble_eq_true rfl, Nat.le_of_ble_eq_true rfl⟩ (g_ki0 (fun H locs hz hP hL hS => ?_))
          refine lv_iload_n hx hb dX8_live_93 rfl (lv_at hl 1 rfl) ?_
          refine lv_aload_n hx hb dX8_live_94 rfl (lv_at hl 2 rfl) ?_
          refine lv_iload_n hx hb dX8_live_95 rfl (lv_at hl 3 rfl) ?_
          refine lv_iconst (v := (nI 1)) hx hb dX8_live_96 (by decide) ?_
          refine g_runV (As := [.int (nI i), .int (nI 1)]) (rest := [.int (laI S A i b), .int (S 3 i), .int (nI ((96 * i) + b)), .ref (mo + 11)]) (own := RX8) (C := RX8) (T := TX8) (N := 20) 2 hx hb hml hown hts hK hz hP hL hS hlo hl.1 (c_X8_of l mo (sRow A 10 (upd (A 10) ((96 * i) + b) ((nI (doN S i b (laI S A i b)))))) S i 1 σ4 sz hMo hR (by omega) (by omega) (by omega)) gX8_live_X8_of rfl rfl rfl (by decide +kernel) ⟨Nat.le_of_ble_eq_true rfl, Nat.le_of_ble_eq_true rfl⟩ hMo.c0 rfl rfl rfl (Nat.le_of_ble_eq_true rfl) dX8_live_97 ⟨Nat.le_of_ble_eq_true rfl, Nat.le_of_ble_eq_true rfl⟩ (g_ki0 (fun H locs hz hP hL hS => ?_))
          refine lv_iadd hx hb dX8_live_100 ?_
          refine g_runS (As := [.int (S 3 i), .int ((laI S A i b) + (S 4 i))]) (rest := [.int (nI ((96 * i) + b)), .ref (mo + 11)]) (own := RX8) 2 hx hb hml hown hts hK hz hP hL hS hlo hl.1 (c_X8_lesser l ((S 3 i)) (((laI S A i b) + (S 4 i))) σ4 sz) gX8_live_X8_lesser rfl rfl rfl (by decide +kernel) ⟨Nat.le_of_ble_eq_true rfl, Nat.le_of_ble_eq_true rfl⟩ rfl rfl (Nat.le_of_ble_eq_true rfl) dX8_live_101 ⟨Nat.le_of_ble_eq_true rfl, Nat.le_of_ble_eq_true rfl⟩ (g_ki0 (fun H locs hz hP hL hS => ?_))
          refine g_top (y := (gtF S b (fun i => laI S A i b) i)) (by show _ = (if doN S i b (laI S A i b) = 0 then laI S A i b - S 1 b else if laI S A i b + S 4 i < S 3 i then laI S A i b + S 4 i else S 3 i); rw [if_neg (c := doN S i b (laI S A i b) = 0) (by omega), les_eq]) ?_
          refine g_iast hx hb hK hP hL hS hMo.c11 (i := nI ((96 * i) + b)) (vp_in_nI (by omega) (by omega)) dX8_live_104 (fun H locs hq hP hL hS => ?_)
          rw [nI_clamp (n := (96 * i) + b) (by omega)] at hP hL
          have hz := hq.trans hz
          obtain ⟨σ5, e5⟩ : ∃ υ0 : gS, υ0 = gup σ4 (mo + 11) (gI 1152 (upd ((sRow A 10 (upd (A 10) ((96 * i) + b) ((nI (doN S i b (laI S A i b)))))) 11) ((96 * i) + b) ((gtF S b (fun i => laI S A i b) i)))) := ⟨_, rfl⟩
          have hP : gH D ka σ5 H := by rw [e5]; exact hP
          have hL : gL lo σ5 := by rw [e5]; exact hL
          have hMo : MoAt σ5 mo (sRow (sRow A 10 (upd (A 10) ((96 * i) + b) ((nI (doN S i b (laI S A i b)))))) 11 (upd ((sRow A 10 (upd (A 10) ((96 * i) + b) ((nI (doN S i b (laI S A i b)))))) 11) ((96 * i) + b) ((gtF S b (fun i => laI S A i b) i)))) := by rw [e5]; exact hMo.w11 (upd ((sRow A 10 (upd (A 10) ((96 * i) + b) ((nI (doN S i b (laI S A i b)))))) 11) ((96 * i) + b) ((gtF S b (fun i => laI S A i b) i)))
          have hag := hag.upe e5 (zo_k (by decide))
          exact g_vret (z := sz) hx hb hr hlk hz hP hL hS dX8_live_105 (gxv_i ⟨rfl, hMo, hag⟩)
        · refine lv_iload_n hx hb dX8_live_77 rfl (lv_at hl 1 rfl) ?_
          refine lv_aload_n hx hb dX8_live_78 rfl (lv_at hl 2 rfl) ?_
          refine lv_iload_n hx hb dX8_live_79 rfl (lv_at hl 4 rfl) ?_
          refine g_runV (As := [.int (nI b)]) (rest := [.int (laI S A i b), .int (nI ((96 * i) + b)), .ref (mo + 11)]) (own := RX8) (C := RX8) (T := TX8) (N := 20) 1 hx hb hml hown hts hK hz hP hL hS hlo hl.1 (c_X8_loud l mo (sRow A 10 (upd (A 10) ((96 * i) + b) ((nI (doN S i b (laI S A i b)))))) S b σ4 sz hMo hR (by omega) (by omega)) gX8_live_X8_loud rfl rfl rfl (by decide +kernel) ⟨Nat.le_of_ble_eq_true rfl, Nat.le_of_ble_eq_true rfl⟩ hMo.c0 rfl rfl rfl (Nat.le_of_ble_eq_true rfl) dX8_live_80 ⟨Nat.le_of_ble_eq_true rfl, Nat.le_of_ble_eq_true rfl⟩ (g_ki0 (fun H locs hz hP hL hS => ?_))
          refine lv_isub hx hb dX8_live_83 ?_
          refine lv_goto (tgt := 104) hx hb dX8_live_84 (by decide) ?_
          refine g_top (y := (gtF S b (fun i => laI S A i b) i)) (by show _ = (if doN S i b (laI S A i b) = 0 then laI S A i b - S 1 b else if laI S A i b + S 4 i < S 3 i then laI S A i b + S 4 i else S 3 i); rw [if_pos (by omega)]) ?_
          refine g_iast hx hb hK hP hL hS hMo.c11 (i := nI ((96 * i) + b)) (vp_in_nI (by omega) (by omega)) dX8_live_104 (fun H locs hq hP hL hS => ?_)
          rw [nI_clamp (n := (96 * i) + b) (by omega)] at hP hL
          have hz := hq.trans hz
          obtain ⟨σ6, e6⟩ : ∃ υ0 : gS, υ0 = gup σ4 (mo + 11) (gI 1152 (upd ((sRow A 10 (upd (A 10) ((96 * i) + b) ((nI (doN S i b (laI S A i b)))))) 11) ((96 * i) + b) ((gtF S b (fun i => laI S A i b) i)))) := ⟨_, rfl⟩
          have hP : gH D ka σ6 H := by rw [e6]; exact hP
          have hL : gL lo σ6 := by rw [e6]; exact hL
          have hMo : MoAt σ6 mo (sRow (sRow A 10 (upd (A 10) ((96 * i) + b) ((nI (doN S i b (laI S A i b)))))) 11 (upd ((sRow A 10 (upd (A 10) ((96 * i) + b) ((nI (doN S i b (laI S A i b)))))) 11) ((96 * i) + b) ((gtF S b (fun i => laI S A i b) i)))) := by rw [e6]; exact hMo.w11 (upd ((sRow A 10 (upd (A 10) ((96 * i) + b) ((nI (doN S i b (laI S A i b)))))) 11) ((96 * i) + b) ((gtF S b (fun i => laI S A i b) i)))
          have hag := hag.upe e6 (zo_k (by decide))
          exact g_vret (z := sz) hx hb hr hlk hz hP hL hS dX8_live_105 (gxv_i ⟨rfl, hMo, hag⟩)
    · refine lv_iconst (v := (nI 1)) hx hb dX8_live_29 (by decide) ?_
      refine lv_goto (tgt := 47) hx hb dX8_live_30 (by decide) ?_
      refine g_top (y := (nI (doN S i b (laI S A i b)))) (congrArg nI (by rw [doN, if_pos c13, if_pos c26])) ?_
      have hd4 := doN_lt S i b (laI S A i b)
      refine lv_istore (lv' := [(4, .int (nI (doN S i b (laI S A i b)))), (3, .int (laI S A i b)), (0, .ref mo), (1, .int (nI i)), (2, .int (nI b))]) hx hb dX8_live_47 hl (by decide) rfl (fun ls hl => ?_)
      refine lv_aload_n hx hb dX8_live_49 rfl (lv_at hl 2 rfl) ?_
      refine g_get (C := RX8) (T := TX8) (N := 20) hx hb hts hown hK hP hMo.c0 nX8_live_X8 rfl 13 (by decide) (by decide +kernel) rfl (v := .ref (mo + 10)) rfl dX8_live_50 ?_
      refine lv_bipush (v := (nI 96)) hx hb dX8_live_53 (by decide) ?_
      refine lv_iload_n hx hb dX8_live_55 rfl (lv_at hl 3 rfl) ?_
      refine lv_imul hx hb dX8_live_56 ?_
      refine g_top (pk_mul 96 i) ?_
      refine lv_iload_n hx hb dX8_live_57 rfl (lv_at hl 4 rfl) ?_
      refine lv_iadd hx hb dX8_live_58 ?_
      refine g_top (nI_add (96 * i) b) ?_
      refine lv_iload hx hb dX8_live_59 (lv_at hl 0 rfl) ?_
      refine g_iast hx hb hK hP hL hS hMo.c10 (i := nI ((96 * i) + b)) (vp_in_nI (by omega) (by omega)) dX8_live_61 (fun H locs hq hP hL hS => ?_)
      rw [nI_clamp (n := (96 * i) + b) (by omega)] at hP hL
      have hz := hq.trans hz
      obtain ⟨σ7, e7⟩ : ∃ υ0 : gS, υ0 = gup σ (mo + 10) (gI 1152 (upd (A 10) ((96 * i) + b) ((nI (doN S i b (laI S A i b)))))) := ⟨_, rfl⟩
      have hP : gH D ka σ7 H := by rw [e7]; exact hP
      have hL : gL lo σ7 := by rw [e7]; exact hL
      have hMo : MoAt σ7 mo (sRow A 10 (upd (A 10) ((96 * i) + b) ((nI (doN S i b (laI S A i b)))))) := by rw [e7]; exact hMo.w10 (upd (A 10) ((96 * i) + b) ((nI (doN S i b (laI S A i b)))))
      have hag := hag.upe e7 (zo_k (by decide))
      refine lv_aload_n hx hb dX8_live_62 rfl (lv_at hl 2 rfl) ?_
      refine g_get (C := RX8) (T := TX8) (N := 20) hx hb hts hown hK hP hMo.c0 nX8_live_X8 rfl 14 (by decide) (by decide +kernel) rfl (v := .ref (mo + 11)) rfl dX8_live_63 ?_
      refine lv_bipush (v := (nI 96)) hx hb dX8_live_66 (by decide) ?_
      refine lv_iload_n hx hb dX8_live_68 rfl (lv_at hl 3 rfl) ?_
      refine lv_imul hx hb dX8_live_69 ?_
      refine g_top (pk_mul 96 i) ?_
      refine lv_iload_n hx hb dX8_live_70 rfl (lv_at hl 4 rfl) ?_
      refine lv_iadd hx hb dX8_live_71 ?_
      refine g_top (nI_add (96 * i) b) ?_
      refine lv_iload hx hb dX8_live_72 (lv_at hl 0 rfl) ?_
      refine g_if_ne (tgt := 87) hx hb (by omega) dX8_live_74 (by decide) (fun c74 => ?_) (fun c74 => ?_)
      · refine lv_aload_n hx hb dX8_live_87 rfl (lv_at hl 2 rfl) ?_
        refine lv_iload_n hx hb dX8_live_88 rfl (lv_at hl 3 rfl) ?_
        refine lv_iconst (v := (nI 0)) hx hb dX8_live_89 (by decide) ?_
        refine g_runV (As := [.int (nI i), .int (nI 0)]) (rest := [.int (nI ((96 * i) + b)), .ref (mo + 11)]) (own := RX8) (C := RX8) (T := TX8) (N := 20) 2 hx hb hml hown hts hK hz hP hL hS hlo hl.1 (c_X8_of l mo (sRow A 10 (upd (A 10) ((96 * i) + b) ((nI (doN S i b (laI S A i b)))))) S i 0 σ7 sz hMo hR (by omega) (by omega) (by omega)) gX8_live_X8_of rfl rfl rfl (by decide +kernel) ⟨Nat.le_of_ble_eq_true rfl, Nat.le_of_ble_eq_true rfl⟩ hMo.c0 rfl rfl rfl (Nat.le_of_ble_eq_true rfl) dX8_live_90 ⟨Nat.le_of_ble_eq_true rfl, Nat.le_of_ble_eq_true rfl⟩ (g_ki0 (fun H locs hz hP hL hS => ?_))
        refine lv_iload_n hx hb dX8_live_93 rfl (lv_at hl 1 rfl) ?_
        refine lv_aload_n hx hb dX8_live_94 rfl (lv_at hl 2 rfl) ?_
        refine lv_iload_n hx hb dX8_live_95 rfl (lv_at hl 3 rfl) ?_
        refine lv_iconst (v := (nI 1)) hx hb dX8_live_96 (by decide) ?_
        refine g_runV (As := [.int (nI i), .int (nI 1)]) (rest := [.int (laI S A i b), .int (S 3 i), .int (nI ((96 * i) + b)), .ref (mo + 11)]) (own := RX8) (C := RX8) (T := TX8) (N := 20) 2 hx hb hml hown hts hK hz hP hL hS hlo hl.1 (c_X8_of l mo (sRow A 10 (upd (A 10) ((96 * i) + b) ((nI (doN S i b (laI S A i b)))))) S i 1 σ7 sz hMo hR (by omega) (by omega) (by omega)) gX8_live_X8_of rfl rfl rfl (by decide +kernel) ⟨Nat.le_of_ble_eq_true rfl, Nat.le_of_ble_eq_true rfl⟩ hMo.c0 rfl rfl rfl (Nat.le_of_ble_eq_true rfl) dX8_live_97 ⟨Nat.le_of_ble_eq_true rfl, Nat.le_of_ble_eq_true rfl⟩ (g_ki0 (fun H locs hz hP hL hS => ?_))
        refine lv_iadd hx hb dX8_live_100 ?_
        refine g_runS (As := [.int (S 3 i), .int ((laI S A i b) + (S 4 i))]) (rest := [.int (nI ((96 * i) + b)), .ref (mo + 11)]) (own := RX8) 2 hx hb hml hown hts hK hz hP hL hS hlo hl.1 (c_X8_lesser l ((S 3 i)) (((laI S A i b) + (S 4 i))) σ7 sz) gX8_live_X8_lesser rfl rfl rfl (by decide +kernel) ⟨Nat.le_of_ble_eq_true rfl, Nat.le_of_ble_eq_true rfl⟩ rfl rfl (Nat.le_of_ble_eq_true rfl) dX8_live_101 ⟨Nat.le_of_ble_eq_true rfl, Nat.le_of_ble_eq_true rfl⟩ (g_ki0 (fun H locs hz hP hL hS => ?_))
        refine g_top (y := (gtF S b (fun i => laI S A i b) i)) (by show _ = (if doN S i b (laI S A i b) = 0 then laI S A i b - S 1 b else if laI S A i b + S 4 i < S 3 i then laI S A i b + S 4 i else S 3 i); rw [if_neg (c := doN S i b (laI S A i b) = 0) (by omega), les_eq]) ?_
        refine g_iast hx hb hK hP hL hS hMo.c11 (i := nI ((96 * i) + b)) (vp_in_nI (by omega) (by omega)) dX8_live_104 (fun H locs hq hP hL hS => ?_)
        rw [nI_clamp (n := (96 * i) + b) (by omega)] at hP hL
        have hz := hq.trans hz
        obtain ⟨σ8, e8⟩ : ∃ υ0 : gS, υ0 = gup σ7 (mo + 11) (gI 1152 (upd ((sRow A 10 (upd (A 10) ((96 * i) + b) ((nI (doN S i b (laI S A i b)))))) 11) ((96 * i) + b) ((gtF S b (fun i => laI S A i b) i)))) := ⟨_, rfl⟩
        have hP : gH D ka σ8 H := by rw [e8]; exact hP
        have hL : gL lo σ8 := by rw [e8]; exact hL
        have hMo : MoAt σ8 mo (sRow (sRow A 10 (upd (A 10) ((96 * i) + b) ((nI (doN S i b (laI S A i b)))))) 11 (upd ((sRow A 10 (upd (A 10) ((96 * i) + b) ((nI (doN S i b (laI S A i b)))))) 11) ((96 * i) + b) ((gtF S b (fun i => laI S A i b) i)))) := by rw [e8]; exact hMo.w11 (upd ((sRow A 10 (upd (A 10) ((96 * i) + b) ((nI (doN S i b (laI S A i b)))))) 11) ((96 * i) + b) ((gtF S b (fun i => laI S A i b) i)))
        have hag := hag.upe e8 (zo_k (by decide))
        exact g_vret (z := sz) hx hb hr hlk hz hP hL hS dX8_live_105 (gxv_i ⟨rfl, hMo, hag⟩)
      · refine lv_iload_n hx hb dX8_live_77 rfl (lv_at hl 1 rfl) ?_
        refine lv_aload_n hx hb dX8_live_78 rfl (lv_at hl 2 rfl) ?_
        refine lv_iload_n hx hb dX8_live_79 rfl (lv_at hl 4 rfl) ?_
        refine g_runV (As := [.int (nI b)]) (rest := [.int (laI S A i b), .int (nI ((96 * i) + b)), .ref (mo + 11)]) (own := RX8) (C := RX8) (T := TX8) (N := 20) 1 hx hb hml hown hts hK hz hP hL hS hlo hl.1 (c_X8_loud l mo (sRow A 10 (upd (A 10) ((96 * i) + b) ((nI (doN S i b (laI S A i b)))))) S b σ7 sz hMo hR (by omega) (by omega)) gX8_live_X8_loud rfl rfl rfl (by decide +kernel) ⟨Nat.le_of_ble_eq_true rfl, Nat.le_of_ble_eq_true rfl⟩ hMo.c0 rfl rfl rfl (Nat.le_of_ble_eq_true rfl) dX8_live_80 ⟨Nat.le_of_ble_eq_true rfl, Nat.le_of_ble_eq_true rfl⟩ (g_ki0 (fun H locs hz hP hL hS => ?_))
        refine lv_isub hx hb dX8_live_83 ?_
        refine lv_goto (tgt := 104) hx hb dX8_live_84 (by decide) ?_
        refine g_top (y := (gtF S b (fun i => laI S A i b) i)) (by show _ = (if doN S i b (laI S A i b) = 0 then laI S A i b - S 1 b else if laI S A i b + S 4 i < S 3 i then laI S A i b + S 4 i else S 3 i); rw [if_pos (by omega)]) ?_
        refine g_iast hx hb hK hP hL hS hMo.c11 (i := nI ((96 * i) + b)) (vp_in_nI (by omega) (by omega)) dX8_live_104 (fun H locs hq hP hL hS => ?_)
        rw [nI_clamp (n := (96 * i) + b) (by omega)] at hP hL
        have hz := hq.trans hz
        obtain ⟨σ9, e9⟩ : ∃ υ0 : gS, υ0 = gup σ7 (mo + 11) (gI 1152 (upd ((sRow A 10 (upd (A 10) ((96 * i) + b) ((nI (doN S i b (laI S A i b)))))) 11) ((96 * i) + b) ((gtF S b (fun i => laI S A i b) i)))) := ⟨_, rfl⟩
        have hP : gH D ka σ9 H := by rw [e9]; exact hP
        have hL : gL lo σ9 := by rw [e9]; exact hL
        have hMo : MoAt σ9 mo (sRow (sRow A 10 (upd (A 10) ((96 * i) + b) ((nI (doN S i b (laI S A i b)))))) 11 (upd ((sRow A 10 (upd (A 10) ((96 * i) + b) ((nI (doN S i b (laI S A i b)))))) 11) ((96 * i) + b) ((gtF S b (fun i => laI S A i b) i)))) := by rw [e9]; exact hMo.w11 (upd ((sRow A 10 (upd (A 10) ((96 * i) + b) ((nI (doN S i b (laI S A i b)))))) 11) ((96 * i) + b) ((gtF S b (fun i => laI S A i b) i)))
        have hag := hag.upe e9 (zo_k (by decide))
        exact g_vret (z := sz) hx hb hr hlk hz hP hL hS dX8_live_105 (gxv_i ⟨rfl, hMo, hag⟩)
  · refine lv_iconst (v := (nI 3)) hx hb dX8_live_16 (by decide) ?_
    refine lv_goto (tgt := 47) hx hb dX8_live_17 (by decide) ?_
    refine g_top (y := (nI (doN S i b (laI S A i b)))) (congrArg nI (by rw [doN, if_neg (nb c13)])) ?_
    have hd4 := doN_lt S i b (laI S A i b)
    refine lv_istore (lv' := [(4, .int (nI (doN S i b (laI S A i b)))), (3, .int (laI S A i b)), (0, .ref mo), (1, .int (nI i)), (2, .int (nI b))]) hx hb dX8_live_47 hl (by decide) rfl (fun ls hl => ?_)
    refine lv_aload_n hx hb dX8_live_49 rfl (lv_at hl 2 rfl) ?_
    refine g_get (C := RX8) (T := TX8) (N := 20) hx hb hts hown hK hP hMo.c0 nX8_live_X8 rfl 13 (by decide) (by decide +kernel) rfl (v := .ref (mo + 10)) rfl dX8_live_50 ?_
    refine lv_bipush (v := (nI 96)) hx hb dX8_live_53 (by decide) ?_
    refine lv_iload_n hx hb dX8_live_55 rfl (lv_at hl 3 rfl) ?_
    refine lv_imul hx hb dX8_live_56 ?_
    refine g_top (pk_mul 96 i) ?_
    refine lv_iload_n hx hb dX8_live_57 rfl (lv_at hl 4 rfl) ?_
    refine lv_iadd hx hb dX8_live_58 ?_
    refine g_top (nI_add (96 * i) b) ?_
    refine lv_iload hx hb dX8_live_59 (lv_at hl 0 rfl) ?_
    refine g_iast hx hb hK hP hL hS hMo.c10 (i := nI ((96 * i) + b)) (vp_in_nI (by omega) (by omega)) dX8_live_61 (fun H locs hq hP hL hS => ?_)
    rw [nI_clamp (n := (96 * i) + b) (by omega)] at hP hL
    have hz := hq.trans hz
    obtain ⟨σ10, e10⟩ : ∃ υ0 : gS, υ0 = gup σ (mo + 10) (gI 1152 (upd (A 10) ((96 * i) + b) ((nI (doN S i b (laI S A i b)))))) := ⟨_, rfl⟩
    have hP : gH D ka σ10 H := by rw [e10]; exact hP
    have hL : gL lo σ10 := by rw [e10]; exact hL
    have hMo : MoAt σ10 mo (sRow A 10 (upd (A 10) ((96 * i) + b) ((nI (doN S i b (laI S A i b)))))) := by rw [e10]; exact hMo.w10 (upd (A 10) ((96 * i) + b) ((nI (doN S i b (laI S A i b)))))
    have hag := hag.upe e10 (zo_k (by decide))
    refine lv_aload_n hx hb dX8_live_62 rfl (lv_at hl 2 rfl) ?_
    refine g_get (C := RX8) (T := TX8) (N := 20) hx hb hts hown hK hP hMo.c0 nX8_live_X8 rfl 14 (by decide) (by decide +kernel) rfl (v := .ref (mo + 11)) rfl dX8_live_63 ?_
    refine lv_bipush (v := (nI 96)) hx hb dX8_live_66 (by decide) ?_
    refine lv_iload_n hx hb dX8_live_68 rfl (lv_at hl 3 rfl) ?_
    refine lv_imul hx hb dX8_live_69 ?_
    refine g_top (pk_mul 96 i) ?_
    refine lv_iload_n hx hb dX8_live_70 rfl (lv_at hl 4 rfl) ?_
    refine lv_iadd hx hb dX8_live_71 ?_
    refine g_top (nI_add (96 * i) b) ?_
    refine lv_iload hx hb dX8_live_72 (lv_at hl 0 rfl) ?_
    refine g_if_ne (tgt := 87) hx hb (by omega) dX8_live_74 (by decide) (fun c74 => ?_) (fun c74 => ?_)
    · refine lv_aload_n hx hb dX8_live_87 rfl (lv_at hl 2 rfl) ?_
      refine lv_iload_n hx hb dX8_live_88 rfl (lv_at hl 3 rfl) ?_
      refine lv_iconst (v := (nI 0)) hx hb dX8_live_89 (by decide) ?_
      refine g_runV (As := [.int (nI i), .int (nI 0)]) (rest := [.int (nI ((96 * i) + b)), .ref (mo + 11)]) (own := RX8) (C := RX8) (T := TX8) (N := 20) 2 hx hb hml hown hts hK hz hP hL hS hlo hl.1 (c_X8_of l mo (sRow A 10 (upd (A 10) ((96 * i) + b) ((nI (doN S i b (laI S A i b)))))) S i 0 σ10 sz hMo hR (by omega) (by omega) (by omega)) gX8_live_X8_of rfl rfl rfl (by decide +kernel) ⟨Nat.le_of_ble_eq_true rfl, Nat.le_of_ble_eq_true rfl⟩ hMo.c0 rfl rfl rfl (Nat.le_of_ble_eq_true rfl) dX8_live_90 ⟨Nat.le_of_ble_eq_true rfl, Nat.le_of_ble_eq_true rfl⟩ (g_ki0 (fun H locs hz hP hL hS => ?_))
      refine lv_iload_n hx hb dX8_live_93 rfl (lv_at hl 1 rfl) ?_
      refine lv_aload_n hx hb dX8_live_94 rfl (lv_at hl 2 rfl) ?_
      refine lv_iload_n hx hb dX8_live_95 rfl (lv_at hl 3 rfl) ?_
      refine lv_iconst (v := (nI 1)) hx hb dX8_live_96 (by decide) ?_
      refine g_runV (As := [.int (nI i), .int (nI 1)]) (rest := [.int (laI S A i b), .int (S 3 i), .int (nI ((96 * i) + b)), .ref (mo + 11)]) (own := RX8) (C := RX8) (T := TX8) (N := 20) 2 hx hb hml hown hts hK hz hP hL hS hlo hl.1 (c_X8_of l mo (sRow A 10 (upd (A 10) ((96 * i) + b) ((nI (doN S i b (laI S A i b)))))) S i 1 σ10 sz hMo hR (by omega) (by omega) (by omega)) gX8_live_X8_of rfl rfl rfl (by decide +kernel) ⟨Nat.le_of_ble_eq_true rfl, Nat.le_of_ble_eq_true rfl⟩ hMo.c0 rfl rfl rfl (Nat.le_of_ble_eq_true rfl) dX8_live_97 ⟨Nat.le_of_ble_eq_true rfl, Nat.le_of_ble_eq_true rfl⟩ (g_ki0 (fun H locs hz hP hL hS => ?_))
      refine lv_iadd hx hb dX8_live_100 ?_
      refine g_runS (As := [.int (S 3 i), .int ((laI S A i b) + (S 4 i))]) (rest := [.int (nI ((96 * i) + b)), .ref (mo + 11)]) (own := RX8) 2 hx hb hml hown hts hK hz hP hL hS hlo hl.1 (c_X8_lesser l ((S 3 i)) (((laI S A i b) + (S 4 i))) σ10 sz) gX8_live_X8_lesser rfl rfl rfl (by decide +kernel) ⟨Nat.le_of_ble_eq_true rfl, Nat.le_of_ble_eq_true rfl⟩ rfl rfl (Nat.le_of_ble_eq_true rfl) dX8_live_101 ⟨Nat.le_of_ble_eq_true rfl, Nat.le_of_ble_eq_true rfl⟩ (g_ki0 (fun H locs hz hP hL hS => ?_))
      refine g_top (y := (gtF S b (fun i => laI S A i b) i)) (by show _ = (if doN S i b (laI S A i b) = 0 then laI S A i b - S 1 b else if laI S A i b + S 4 i < S 3 i then laI S A i b + S 4 i else S 3 i); rw [if_neg (c := doN S i b (laI S A i b) = 0) (by omega), les_eq]) ?_
      refine g_iast hx hb hK hP hL hS hMo.c11 (i := nI ((96 * i) + b)) (vp_in_nI (by omega) (by omega)) dX8_live_104 (fun H locs hq hP hL hS => ?_)
      rw [nI_clamp (n := (96 * i) + b) (by omega)] at hP hL
      have hz := hq.trans hz
      obtain ⟨σ11, e11⟩ : ∃ υ0 : gS, υ0 = gup σ10 (mo + 11) (gI 1152 (upd ((sRow A 10 (upd (A 10) ((96 * i) + b) ((nI (doN S i b (laI S A i b)))))) 11) ((96 * i) + b) ((gtF S b (fun i => laI S A i b) i)))) := ⟨_, rfl⟩
      have hP : gH D ka σ11 H := by rw [e11]; exact hP
      have hL : gL lo σ11 := by rw [e11]; exact hL
      have hMo : MoAt σ11 mo (sRow (sRow A 10 (upd (A 10) ((96 * i) + b) ((nI (doN S i b (laI S A i b)))))) 11 (upd ((sRow A 10 (upd (A 10) ((96 * i) + b) ((nI (doN S i b (laI S A i b)))))) 11) ((96 * i) + b) ((gtF S b (fun i => laI S A i b) i)))) := by rw [e11]; exact hMo.w11 (upd ((sRow A 10 (upd (A 10) ((96 * i) + b) ((nI (doN S i b (laI S A i b)))))) 11) ((96 * i) + b) ((gtF S b (fun i => laI S A i b) i)))
      have hag := hag.upe e11 (zo_k (by decide))
      exact g_vret (z := sz) hx hb hr hlk hz hP hL hS dX8_live_105 (gxv_i ⟨rfl, hMo, hag⟩)
    · refine lv_iload_n hx hb dX8_live_77 rfl (lv_at hl 1 rfl) ?_
      refine lv_aload_n hx hb dX8_live_78 rfl (lv_at hl 2 rfl) ?_
      refine lv_iload_n hx hb dX8_live_79 rfl (lv_at hl 4 rfl) ?_
      refine g_runV (As := [.int (nI b)]) (rest := [.int (laI S A i b), .int (nI ((96 * i) + b)), .ref (mo + 11)]) (own := RX8) (C := RX8) (T := TX8) (N := 20) 1 hx hb hml hown hts hK hz hP hL hS hlo hl.1 (c_X8_loud l mo (sRow A 10 (upd (A 10) ((96 * i) + b) ((nI (doN S i b (laI S A i b)))))) S b σ10 sz hMo hR (by omega) (by omega)) gX8_live_X8_loud rfl rfl rfl (by decide +kernel) ⟨Nat.le_of_ble_eq_true rfl, Nat.le_of_ble_eq_true rfl⟩ hMo.c0 rfl rfl rfl (Nat.le_of_ble_eq_true rfl) dX8_live_80 ⟨Nat.le_of_ble_eq_true rfl, Nat.le_of_ble_eq_true rfl⟩ (g_ki0 (fun H locs hz hP hL hS => ?_))
      refine lv_isub hx hb dX8_live_83 ?_
      refine lv_goto (tgt := 104) hx hb dX8_live_84 (by decide) ?_
      refine g_top (y := (gtF S b (fun i => laI S A i b) i)) (by show _ = (if doN S i b (laI S A i b) = 0 then laI S A i b - S 1 b else if laI S A i b + S 4 i < S 3 i then laI S A i b + S 4 i else S 3 i); rw [if_pos (by omega)]) ?_
      refine g_iast hx hb hK hP hL hS hMo.c11 (i := nI ((96 * i) + b)) (vp_in_nI (by omega) (by omega)) dX8_live_104 (fun H locs hq hP hL hS => ?_)
      rw [nI_clamp (n := (96 * i) + b) (by omega)] at hP hL
      have hz := hq.trans hz
      obtain ⟨σ12, e12⟩ : ∃ υ0 : gS, υ0 = gup σ10 (mo + 11) (gI 1152 (upd ((sRow A 10 (upd (A 10) ((96 * i) + b) ((nI (doN S i b (laI S A i b)))))) 11) ((96 * i) + b) ((gtF S b (fun i => laI S A i b) i)))) := ⟨_, rfl⟩
      have hP : gH D ka σ12 H := by rw [e12]; exact hP
      have hL : gL lo σ12 := by rw [e12]; exact hL
      have hMo : MoAt σ12 mo (sRow (sRow A 10 (upd (A 10) ((96 * i) + b) ((nI (doN S i b (laI S A i b)))))) 11 (upd ((sRow A 10 (upd (A 10) ((96 * i) + b) ((nI (doN S i b (laI S A i b)))))) 11) ((96 * i) + b) ((gtF S b (fun i => laI S A i b) i)))) := by rw [e12]; exact hMo.w11 (upd ((sRow A 10 (upd (A 10) ((96 * i) + b) ((nI (doN S i b (laI S A i b)))))) 11) ((96 * i) + b) ((gtF S b (fun i => laI S A i b) i)))
      have hag := hag.upe e12 (zo_k (by decide))
      exact g_vret (z := sz) hx hb hr hlk hz hP hL hS dX8_live_105 (gxv_i ⟨rfl, hMo, hag⟩)

set_option maxHeartbeats 4000000 in
set_option maxRecDepth 100000 in
theorem c_X8_liveAll (l : Launch) (mo : Nat) (A S : sS) (σ : gS) (sz : Nat) (hMo : MoAt σ mo A) (hR : Rr S (A 1)) (hN : sN S ≤ 12) (hB : sB S ≤ 96) (hKs : sK S ≤ 8) : gM l yX8_liveAll wsX8_liveAll ({ frames := 4, cells := 0, slots := 0, locals := 91 } : Room) 0 0 [.ref mo] σ sz (gxv (fun τ n => n = sz ∧ (∃ A2 : sS, MoAt τ mo A2 ∧ (∀ j : Nat, j ≠ 10 → j ≠ 11 → A2 j = A j) ∧ LvD S A2 (sN S) 0) ∧ gAs (gZo mo 16) σ τ)) := by
  refine gM_of (cc := cX8_liveAll) (maxL := 3) (ret := none) (by decide) rfl (Nat.le_of_ble_eq_true rfl) ?_
  intro D ka lo hL hlo p e s m below meth c hx hb hr hts hown hml hlk hnm hK H locs ls hz hP hS hl
  have hl : lv_has ls 3 [(0, .ref mo)] := hl
  have hown : s.vm.findClass RX8 = some m.cls := hown
  have hag : gAs (gZo mo 16) σ σ := gAs.rf
  have hR0 := hR
  refine lv_iconst (v := (nI 0)) hx hb dX8_liveAll_0 (by decide) ?_
  refine lv_istore_n (lv' := [(1, .int (nI 0)), (0, .ref mo)]) hx hb dX8_liveAll_1 rfl hl (by decide) rfl (fun ls hl => ?_)
  have lp : ∀ (fu_lp : Nat) (i : Nat), (i ≤ sN S) → (sN S - i < fu_lp) → ∀ (υ : gS), (∃ A2 : sS, MoAt υ mo A2 ∧ (∀ j : Nat, j ≠ 10 → j ≠ 11 → A2 j = A j) ∧ LvD S A2 i 0) → (gAs (gZo mo 16) σ υ) → gL lo υ → ∀ (H : Heap) (locs : List Loc) (ls : Array Slot), H.size = sz → gH D ka υ H → va_S (gA lo) s.heap H locs → lv_has ls 3 [(0, .ref mo), (1, .int (nI i))] → W p l e ({ frames := 4, cells := 0, slots := 0, locals := 91 } : Room) s m ([.ref mo] : List Value).toArray below meth c H locs (0) (0) (MQ below (gQ D ka lo (gxv (fun τ n => n = sz ∧ (∃ A2 : sS, MoAt τ mo A2 ∧ (∀ j : Nat, j ≠ 10 → j ≠ 11 → A2 j = A j) ∧ LvD S A2 (sN S) 0) ∧ gAs (gZo mo 16) σ τ))) ([.ref mo] : List Value).toArray s 0 0 (gA lo)) (F0 m 2 ls []) := by
    intro fu_lp
    induction fu_lp with
    | zero => intro i hi hm_lp; exact absurd hm_lp (Nat.not_lt_zero _)
    | succ fu_lp ih_lp =>
      intro i hi hm_lp υ hEx hag hL H locs ls hz hP hS hl
      obtain ⟨A1, hMo, hAr, hLv⟩ := hEx
      have hR : Rr S (A1 1) := by rw [hAr 1 (by decide) (by decide)]; exact hR0
      refine lv_iload_n hx hb dX8_liveAll_2 rfl (lv_at hl 1 rfl) ?_
      refine lv_aload_n hx hb dX8_liveAll_3 rfl (lv_at hl 0 rfl) ?_
      refine g_runV (As := []) (rest := [.int (nI i)]) (own := RX8) (C := RX8) (T := TX8) (N := 20) 0 hx hb hml hown hts hK hz hP hL hS hlo hl.1 (c_X8_singers l mo A1 S  υ sz hMo hR) gX8_liveAll_X8_singers rfl rfl rfl (by decide +kernel) ⟨Nat.le_of_ble_eq_true rfl, Nat.le_of_ble_eq_true rfl⟩ hMo.c0 rfl rfl rfl (Nat.le_of_ble_eq_true rfl) dX8_liveAll_4 ⟨Nat.le_of_ble_eq_true rfl, Nat.le_of_ble_eq_true rfl⟩ (g_ki0 (fun H locs hz hP hL hS => ?_))
      refine g_icmp_ge (tgt := 38) (a := i) (b := sN S) hx hb (by omega) (by omega) dX8_liveAll_7 (by decide) (fun c7 => ?_) (fun c7 => ?_)
      · exact g_vret (z := sz) hx hb hr hlk hz hP hL hS dX8_liveAll_38 (gxv_i ⟨rfl, ⟨_, hMo, hAr, (by rw [show sN S = i by omega]; exact hLv)⟩, hag⟩)
      · refine lv_iconst (v := (nI 0)) hx hb dX8_liveAll_10 (by decide) ?_
        refine lv_istore_n (lv' := [(2, .int (nI 0)), (0, .ref mo), (1, .int (nI i))]) hx hb dX8_liveAll_11 rfl hl (by decide) rfl (fun ls hl => ?_)
        have lq : ∀ (fu_lq : Nat) (b : Nat), (b ≤ sB S) → (sB S - b < fu_lq) → ∀ (υ : gS), (∃ A2 : sS, MoAt υ mo A2 ∧ (∀ j : Nat, j ≠ 10 → j ≠ 11 → A2 j = A j) ∧ LvD S A2 i b) → (gAs (gZo mo 16) σ υ) → gL lo υ → ∀ (H : Heap) (locs : List Loc) (ls : Array Slot), H.size = sz → gH D ka υ H → va_S (gA lo) s.heap H locs → lv_has ls 3 [(0, .ref mo), (1, .int (nI i)), (2, .int (nI b))] → W p l e ({ frames := 4, cells := 0, slots := 0, locals := 91 } : Room) s m ([.ref mo] : List Value).toArray below meth c H locs (0) (0) (MQ below (gQ D ka lo (gxv (fun τ n => n = sz ∧ (∃ A2 : sS, MoAt τ mo A2 ∧ (∀ j : Nat, j ≠ 10 → j ≠ 11 → A2 j = A j) ∧ LvD S A2 (sN S) 0) ∧ gAs (gZo mo 16) σ τ))) ([.ref mo] : List Value).toArray s 0 0 (gA lo)) (F0 m 12 ls []) := by
          intro fu_lq
          induction fu_lq with
          | zero => intro b hb9 hm_lq; exact absurd hm_lq (Nat.not_lt_zero _)
          | succ fu_lq ih_lq =>
            intro b hb9 hm_lq υ hEx hag hL H locs ls hz hP hS hl
            obtain ⟨A2, hMo, hAr, hLv⟩ := hEx
            have hR : Rr S (A2 1) := by rw [hAr 1 (by decide) (by decide)]; exact hR0
            refine lv_iload_n hx hb dX8_liveAll_12 rfl (lv_at hl 2 rfl) ?_
            refine lv_aload_n hx hb dX8_liveAll_13 rfl (lv_at hl 0 rfl) ?_
            refine g_runV (As := []) (rest := [.int (nI b)]) (own := RX8) (C := RX8) (T := TX8) (N := 20) 0 hx hb hml hown hts hK hz hP hL hS hlo hl.1 (c_X8_beats l mo A2 S  υ sz hMo hR) gX8_liveAll_X8_beats rfl rfl rfl (by decide +kernel) ⟨Nat.le_of_ble_eq_true rfl, Nat.le_of_ble_eq_true rfl⟩ hMo.c0 rfl rfl rfl (Nat.le_of_ble_eq_true rfl) dX8_liveAll_14 ⟨Nat.le_of_ble_eq_true rfl, Nat.le_of_ble_eq_true rfl⟩ (g_ki0 (fun H locs hz hP hL hS => ?_))
            refine g_icmp_ge (tgt := 32) (a := b) (b := sB S) hx hb (by omega) (by omega) dX8_liveAll_17 (by decide) (fun c17 => ?_) (fun c17 => ?_)
            · refine lv_iinc (v := (nI (i + 1))) (lv' := [(1, .int (nI (i + 1))), (0, .ref mo), (2, .int (nI b))]) hx hb dX8_liveAll_32 hl (k := 1) rfl (g_inc i 1) (by decide) rfl (fun ls hl => ?_)
              refine lv_goto (tgt := 2) hx hb dX8_liveAll_35 (by decide) ?_
              exact ih_lp (i + 1) (by omega) (by omega) υ ⟨_, hMo, hAr, LvD.nxt (by rw [show sB S = b by omega]; exact hLv)⟩ hag hL H locs ls hz hP hS (lv_sub hl [1, 0] rfl)
            · refine lv_aload_n hx hb dX8_liveAll_20 rfl (lv_at hl 0 rfl) ?_
              refine lv_iload_n hx hb dX8_liveAll_21 rfl (lv_at hl 1 rfl) ?_
              refine lv_iload_n hx hb dX8_liveAll_22 rfl (lv_at hl 2 rfl) ?_
              refine g_runV (As := [.int (nI i), .int (nI b)]) (rest := []) (own := RX8) (C := RX8) (T := TX8) (N := 20) 2 hx hb hml hown hts hK hz hP hL hS hlo hl.1 (c_X8_live l mo A2 S i b υ sz hMo hR (by omega) (by omega) (by omega) (by omega) (by omega)) gX8_liveAll_X8_live rfl rfl rfl (by decide +kernel) ⟨Nat.le_of_ble_eq_true rfl, Nat.le_of_ble_eq_true rfl⟩ hMo.c0 rfl rfl rfl (Nat.le_of_ble_eq_true rfl) dX8_liveAll_23 ⟨Nat.le_of_ble_eq_true rfl, Nat.le_of_ble_eq_true rfl⟩ (g_kxv0 (fun τ_3 H locs z1 hz hp hP hL hS => ?_))
              obtain ⟨hz1, hm_3, ha_3⟩ := hp
              have hz := hz.trans hz1
              have hMo := hm_3
              have hag := hag.tr ha_3 (fun q h => h)
              refine lv_iinc (v := (nI (b + 1))) (lv' := [(2, .int (nI (b + 1))), (0, .ref mo), (1, .int (nI i))]) hx hb dX8_liveAll_26 hl (k := 2) rfl (g_inc b 1) (by decide) rfl (fun ls hl => ?_)
              refine lv_goto (tgt := 12) hx hb dX8_liveAll_29 (by decide) ?_
              exact ih_lq (b + 1) (by omega) (by omega) τ_3 ⟨_, hMo, (fun j h1 h2 => (sRow_n h2).trans ((sRow_n h1).trans (hAr j h1 h2))), hLv.step (by omega) hB⟩ hag hL H locs ls hz hP hS (lv_sub hl [1, 2, 0] rfl)
        exact lq _ 0 (by omega) (Nat.lt_succ_self _) υ ⟨_, hMo, hAr, hLv⟩ hag hL H locs ls hz hP hS (lv_sub hl [1, 2, 0] rfl)
  exact lp _ 0 (by omega) (Nat.lt_succ_self _) σ ⟨_, hMo, fun j h1 h2 => rfl, fun i2 b2 h1 h2 => by omega⟩ hag hL H locs ls hz hP hS (lv_sub hl [1, 0] rfl)

set_option maxHeartbeats 4000000 in
set_option maxRecDepth 100000 in
theorem c_X8_does (l : Launch) (mo : Nat) (S : sS) (tf : Nat → Int32) (tn P : Nat) (C : Nat → sS) (kp : Nat → Bool) (a1 a2 : Int32) (σ : gS) (sz : Nat) (hW : Me σ mo S tf tn P C kp) (hok : okS S) (hokC : ∀ k : Nat, k < P → okS (C k)) : gM l yX8_does wsX8_does ({ frames := 5, cells := 0, slots := 0, locals := 113 } : Room) 0 0 [.ref mo, .int a1, .int a2] σ sz (gxi (fun r τ n => r = t_does S a1 a2 ∧ Me τ mo S tf tn P C kp ∧ n = sz ∧ gAs (gZo mo 16) σ τ)) := by
  refine gM_of (cc := cX8_does) (maxL := 3) (ret := (some .int)) (by decide) rfl (Nat.le_of_ble_eq_true rfl) ?_
  intro D ka lo hL hlo p e s m below meth c hx hb hr hts hown hml hlk hnm hK H locs ls hz hP hS hl
  have hl : lv_has ls 3 [(0, .ref mo), (1, .int a1), (2, .int a2)] := hl
  have hown : s.vm.findClass RX8 = some m.cls := hown
  obtain ⟨A, hMo, hA⟩ := hW
  have hR := hA.2.2.1
  have hR0 := hR
  have hP0 := hA.1
  have htn0 := hA.2.1
  have hP5 : P ≤ 5 := hA.2.2.2.2.2.2.2.2
  have htn : tn ≤ 60 := hA.2.2.2.2.2.2.2.1
  obtain ⟨hB, hN, hKs, hRs⟩ := id hok
  have hag : gAs (gZo mo 16) σ σ := gAs.rf
  refine lv_aload_n hx hb dX8_does_0 rfl (lv_at hl 0 rfl) ?_
  refine lv_iload_n hx hb dX8_does_1 rfl (lv_at hl 1 rfl) ?_
  refine g_runV (As := [.int a1]) (rest := []) (own := RX8) (C := RX8) (T := TX8) (N := 20) 1 hx hb hml hown hts hK hz hP hL hS hlo hl.1 (c_X8_noSinger l mo A S a1 σ sz hMo hR (by omega)) gX8_does_X8_noSinger rfl rfl rfl (by decide +kernel) ⟨Nat.le_of_ble_eq_true rfl, Nat.le_of_ble_eq_true rfl⟩ hMo.c0 rfl rfl rfl (Nat.le_of_ble_eq_true rfl) dX8_does_2 ⟨Nat.le_of_ble_eq_true rfl, Nat.le_of_ble_eq_true rfl⟩ (g_ki0 (fun H locs hz hP hL hS => ?_))
  refine g_ifb_ne (tgt := 16) hx hb dX8_does_5 (by decide) (fun c5 => ?_) (fun c5 => ?_)
  · have c5 : inN a1 (sN S) = false := by simpa using c5
    refine lv_iconst (v := (-1)) hx hb dX8_does_16 (by decide) ?_
    exact g_iret (z := sz) hx hb hr hlk hz hP hL hS dX8_does_17 (gxi_i ⟨by unfold t_does; rw [if_neg (by first | exact c5 | exact nb c5 | exact Ne.symm c5 | exact fun q => q c5 | exact fun q => q c5.symm | omega)], ⟨_, hMo, hA⟩, rfl, hag⟩)
  · have c5 : inN a1 (sN S) = true := by simpa using c5
    obtain ⟨ha1e, ha1l⟩ := tk_in c5 (by omega)
    refine lv_aload_n hx hb dX8_does_8 rfl (lv_at hl 0 rfl) ?_
    refine lv_iload_n hx hb dX8_does_9 rfl (lv_at hl 2 rfl) ?_
    refine g_runV (As := [.int a2]) (rest := []) (own := RX8) (C := RX8) (T := TX8) (N := 20) 1 hx hb hml hown hts hK hz hP hL hS hlo hl.1 (c_X8_noBeat l mo A S a2 σ sz hMo hR (by omega)) gX8_does_X8_noBeat rfl rfl rfl (by decide +kernel) ⟨Nat.le_of_ble_eq_true rfl, Nat.le_of_ble_eq_true rfl⟩ hMo.c0 rfl rfl rfl (Nat.le_of_ble_eq_true rfl) dX8_does_10 ⟨Nat.le_of_ble_eq_true rfl, Nat.le_of_ble_eq_true rfl⟩ (g_ki0 (fun H locs hz hP hL hS => ?_))
    refine g_ifb_eq (tgt := 18) hx hb dX8_does_13 (by decide) (fun c13 => ?_) (fun c13 => ?_)
    · have c13 : inN a2 (sB S) = true := by simpa using c13
      obtain ⟨ha2e, ha2l⟩ := tk_in c13 (by omega)
      refine lv_aload_n hx hb dX8_does_18 rfl (lv_at hl 0 rfl) ?_
      refine g_runV (As := []) (rest := []) (own := RX8) (C := RX8) (T := TX8) (N := 20) 0 hx hb hml hown hts hK hz hP hL hS hlo hl.1 (c_X8_liveAll l mo A S σ sz hMo hR (by omega) (by omega) (by omega)) gX8_does_X8_liveAll rfl rfl rfl (by decide +kernel) ⟨Nat.le_of_ble_eq_true rfl, Nat.le_of_ble_eq_true rfl⟩ hMo.c0 rfl rfl rfl (Nat.le_of_ble_eq_true rfl) dX8_does_19 ⟨Nat.le_of_ble_eq_true rfl, Nat.le_of_ble_eq_true rfl⟩ (g_kxv0 (fun τ_1 H locs z1 hz hp hP hL hS => ?_))
      obtain ⟨hz1, ⟨B_1, hm_1, hr_1, hv_1⟩, ha_1⟩ := hp
      have hz := hz.trans hz1
      have hMo := hm_1
      have hag := hag.tr ha_1 (fun q h => h)
      have hR : Rr S (B_1 1) := by rw [hr_1 1 (by decide) (by decide)]; exact hR
      have hsc : ∀ j : Nat, j ≤ 6 → j ≠ 2 → B_1 j = A j := fun j h1 h2 => hr_1 j (by omega) (by omega)
      have hdo : ∀ i b : Nat, i < sN S → b < sB S → B_1 10 (96 * i + b) = nI (dosQ S i b) := fun i b h1 h2 => (hv_1 i b h2 (Or.inl h1)).1
      have hle : ∀ i b : Nat, i < sN S → b < sB S → B_1 11 (96 * i + b) = leS S i b := fun i b h1 h2 => (hv_1 i b h2 (Or.inl h1)).2
      refine lv_aload_n hx hb dX8_does_22 rfl (lv_at hl 0 rfl) ?_
      refine lv_iload_n hx hb dX8_does_23 rfl (lv_at hl 1 rfl) ?_
      refine g_top (y := (nI (tk a1))) ha1e ?_
      refine lv_iload_n hx hb dX8_does_24 rfl (lv_at hl 2 rfl) ?_
      refine g_top (y := (nI (tk a2))) ha2e ?_
      refine g_runV (As := [.int (nI (tk a1)), .int (nI (tk a2))]) (rest := []) (own := RX8) (C := RX8) (T := TX8) (N := 20) 2 hx hb hml hown hts hK hz hP hL hS hlo hl.1 (c_X8_doesAt l mo B_1 S (tk a1) (tk a2) τ_1 sz hMo hR (by omega) (by omega) (by omega) (by omega)) gX8_does_X8_doesAt rfl rfl rfl (by decide +kernel) ⟨Nat.le_of_ble_eq_true rfl, Nat.le_of_ble_eq_true rfl⟩ hMo.c0 rfl rfl rfl (Nat.le_of_ble_eq_true rfl) dX8_does_25 ⟨Nat.le_of_ble_eq_true rfl, Nat.le_of_ble_eq_true rfl⟩ (g_ki0 (fun H locs hz hP hL hS => ?_))
      exact g_iret (z := sz) hx hb hr hlk hz hP hL hS dX8_does_28 (gxi_i ⟨by unfold t_does; rw [if_pos (by first | exact c5 | exact nb c5 | exact Ne.symm c5 | exact fun q => q c5 | exact fun q => q c5.symm | omega), if_pos (by first | exact c13 | exact nb c13 | exact Ne.symm c13 | exact fun q => q c13 | exact fun q => q c13.symm | omega)]; exact hdo _ _ ha1l ha2l, ⟨_, hMo, MeP.scr hA hsc⟩, rfl, hag⟩)
    · have c13 : inN a2 (sB S) = false := by simpa using c13
      refine lv_iconst (v := (-1)) hx hb dX8_does_16 (by decide) ?_
      exact g_iret (z := sz) hx hb hr hlk hz hP hL hS dX8_does_17 (gxi_i ⟨by unfold t_does; rw [if_pos (by first | exact c5 | exact nb c5 | exact Ne.symm c5 | exact fun q => q c5 | exact fun q => q c5.symm | omega), if_neg (by first | exact c13 | exact nb c13 | exact Ne.symm c13 | exact fun q => q c13 | exact fun q => q c13.symm | omega)], ⟨_, hMo, hA⟩, rfl, hag⟩)

theorem nX8_left_X8 : ∀ w ∈ wsX80, w ∈ wsX8_left := by decide +kernel
set_option maxHeartbeats 4000000 in
set_option maxRecDepth 100000 in
theorem c_X8_left (l : Launch) (mo : Nat) (S : sS) (tf : Nat → Int32) (tn P : Nat) (C : Nat → sS) (kp : Nat → Bool) (a1 a2 : Int32) (σ : gS) (sz : Nat) (hW : Me σ mo S tf tn P C kp) (hok : okS S) (hokC : ∀ k : Nat, k < P → okS (C k)) : gM l yX8_left wsX8_left ({ frames := 5, cells := 0, slots := 0, locals := 113 } : Room) 0 0 [.ref mo, .int a1, .int a2] σ sz (gxi (fun r τ n => r = t_left S a1 a2 ∧ Me τ mo S tf tn P C kp ∧ n = sz ∧ gAs (gZo mo 16) σ τ)) := by
  refine gM_of (cc := cX8_left) (maxL := 3) (ret := (some .int)) (by decide) rfl (Nat.le_of_ble_eq_true rfl) ?_
  intro D ka lo hL hlo p e s m below meth c hx hb hr hts hown hml hlk hnm hK H locs ls hz hP hS hl
  have hl : lv_has ls 3 [(0, .ref mo), (1, .int a1), (2, .int a2)] := hl
  have hown : s.vm.findClass RX8 = some m.cls := hown
  obtain ⟨A, hMo, hA⟩ := hW
  have hR := hA.2.2.1
  have hR0 := hR
  have hP0 := hA.1
  have htn0 := hA.2.1
  have hP5 : P ≤ 5 := hA.2.2.2.2.2.2.2.2
  have htn : tn ≤ 60 := hA.2.2.2.2.2.2.2.1
  obtain ⟨hB, hN, hKs, hRs⟩ := id hok
  have hag : gAs (gZo mo 16) σ σ := gAs.rf
  refine lv_aload_n hx hb dX8_left_0 rfl (lv_at hl 0 rfl) ?_
  refine lv_iload_n hx hb dX8_left_1 rfl (lv_at hl 1 rfl) ?_
  refine g_runV (As := [.int a1]) (rest := []) (own := RX8) (C := RX8) (T := TX8) (N := 20) 1 hx hb hml hown hts hK hz hP hL hS hlo hl.1 (c_X8_noSinger l mo A S a1 σ sz hMo hR (by omega)) gX8_left_X8_noSinger rfl rfl rfl (by decide +kernel) ⟨Nat.le_of_ble_eq_true rfl, Nat.le_of_ble_eq_true rfl⟩ hMo.c0 rfl rfl rfl (Nat.le_of_ble_eq_true rfl) dX8_left_2 ⟨Nat.le_of_ble_eq_true rfl, Nat.le_of_ble_eq_true rfl⟩ (g_ki0 (fun H locs hz hP hL hS => ?_))
  refine g_ifb_ne (tgt := 16) hx hb dX8_left_5 (by decide) (fun c5 => ?_) (fun c5 => ?_)
  · have c5 : inN a1 (sN S) = false := by simpa using c5
    refine lv_iconst (v := (-1)) hx hb dX8_left_16 (by decide) ?_
    exact g_iret (z := sz) hx hb hr hlk hz hP hL hS dX8_left_17 (gxi_i ⟨by unfold t_left; rw [if_neg (by first | exact c5 | exact nb c5 | exact Ne.symm c5 | exact fun q => q c5 | exact fun q => q c5.symm | omega)], ⟨_, hMo, hA⟩, rfl, hag⟩)
  · have c5 : inN a1 (sN S) = true := by simpa using c5
    obtain ⟨ha1e, ha1l⟩ := tk_in c5 (by omega)
    refine lv_aload_n hx hb dX8_left_8 rfl (lv_at hl 0 rfl) ?_
    refine lv_iload_n hx hb dX8_left_9 rfl (lv_at hl 2 rfl) ?_
    refine g_runV (As := [.int a2]) (rest := []) (own := RX8) (C := RX8) (T := TX8) (N := 20) 1 hx hb hml hown hts hK hz hP hL hS hlo hl.1 (c_X8_noBeat l mo A S a2 σ sz hMo hR (by omega)) gX8_left_X8_noBeat rfl rfl rfl (by decide +kernel) ⟨Nat.le_of_ble_eq_true rfl, Nat.le_of_ble_eq_true rfl⟩ hMo.c0 rfl rfl rfl (Nat.le_of_ble_eq_true rfl) dX8_left_10 ⟨Nat.le_of_ble_eq_true rfl, Nat.le_of_ble_eq_true rfl⟩ (g_ki0 (fun H locs hz hP hL hS => ?_))
    refine g_ifb_eq (tgt := 18) hx hb dX8_left_13 (by decide) (fun c13 => ?_) (fun c13 => ?_)
    · have c13 : inN a2 (sB S) = true := by simpa using c13
      obtain ⟨ha2e, ha2l⟩ := tk_in c13 (by omega)
      refine lv_aload_n hx hb dX8_left_18 rfl (lv_at hl 0 rfl) ?_
      refine g_runV (As := []) (rest := []) (own := RX8) (C := RX8) (T := TX8) (N := 20) 0 hx hb hml hown hts hK hz hP hL hS hlo hl.1 (c_X8_liveAll l mo A S σ sz hMo hR (by omega) (by omega) (by omega)) gX8_left_X8_liveAll rfl rfl rfl (by decide +kernel) ⟨Nat.le_of_ble_eq_true rfl, Nat.le_of_ble_eq_true rfl⟩ hMo.c0 rfl rfl rfl (Nat.le_of_ble_eq_true rfl) dX8_left_19 ⟨Nat.le_of_ble_eq_true rfl, Nat.le_of_ble_eq_true rfl⟩ (g_kxv0 (fun τ_1 H locs z1 hz hp hP hL hS => ?_))
      obtain ⟨hz1, ⟨B_1, hm_1, hr_1, hv_1⟩, ha_1⟩ := hp
      have hz := hz.trans hz1
      have hMo := hm_1
      have hag := hag.tr ha_1 (fun q h => h)
      have hR : Rr S (B_1 1) := by rw [hr_1 1 (by decide) (by decide)]; exact hR
      have hsc : ∀ j : Nat, j ≤ 6 → j ≠ 2 → B_1 j = A j := fun j h1 h2 => hr_1 j (by omega) (by omega)
      have hdo : ∀ i b : Nat, i < sN S → b < sB S → B_1 10 (96 * i + b) = nI (dosQ S i b) := fun i b h1 h2 => (hv_1 i b h2 (Or.inl h1)).1
      have hle : ∀ i b : Nat, i < sN S → b < sB S → B_1 11 (96 * i + b) = leS S i b := fun i b h1 h2 => (hv_1 i b h2 (Or.inl h1)).2
      refine lv_aload_n hx hb dX8_left_22 rfl (lv_at hl 0 rfl) ?_
      refine g_get (C := RX8) (T := TX8) (N := 20) hx hb hts hown hK hP hMo.c0 nX8_left_X8 rfl 14 (by decide) (by decide +kernel) rfl (v := .ref (mo + 11)) rfl dX8_left_23 ?_
      refine lv_bipush (v := (nI 96)) hx hb dX8_left_26 (by decide) ?_
      refine lv_iload_n hx hb dX8_left_28 rfl (lv_at hl 1 rfl) ?_
      refine g_top (y := (nI (tk a1))) ha1e ?_
      refine lv_imul hx hb dX8_left_29 ?_
      refine g_top (pk_mul 96 (tk a1)) ?_
      refine lv_iload_n hx hb dX8_left_30 rfl (lv_at hl 2 rfl) ?_
      refine g_top (y := (nI (tk a2))) ha2e ?_
      refine lv_iadd hx hb dX8_left_31 ?_
      refine g_top (nI_add (96 * (tk a1)) (tk a2)) ?_
      refine g_iald hx hb hK hP hMo.c11 (i := nI ((96 * (tk a1)) + (tk a2))) (vp_in_nI (by omega) (by omega)) dX8_left_32 ?_
      rw [nI_clamp (n := (96 * (tk a1)) + (tk a2)) (by omega)]
      exact g_iret (z := sz) hx hb hr hlk hz hP hL hS dX8_left_33 (gxi_i ⟨by unfold t_left; rw [if_pos (by first | exact c5 | exact nb c5 | exact Ne.symm c5 | exact fun q => q c5 | exact fun q => q c5.symm | omega), if_pos (by first | exact c13 | exact nb c13 | exact Ne.symm c13 | exact fun q => q c13 | exact fun q => q c13.symm | omega)]; exact hle _ _ ha1l ha2l, ⟨_, hMo, MeP.scr hA hsc⟩, rfl, hag⟩)
    · have c13 : inN a2 (sB S) = false := by simpa using c13
      refine lv_iconst (v := (-1)) hx hb dX8_left_16 (by decide) ?_
      exact g_iret (z := sz) hx hb hr hlk hz hP hL hS dX8_left_17 (gxi_i ⟨by unfold t_left; rw [if_pos (by first | exact c5 | exact nb c5 | exact Ne.symm c5 | exact fun q => q c5 | exact fun q => q c5.symm | omega), if_neg (by first | exact c13 | exact nb c13 | exact Ne.symm c13 | exact fun q => q c13 | exact fun q => q c13.symm | omega)], ⟨_, hMo, hA⟩, rfl, hag⟩)

theorem nX8_beat_X8 : ∀ w ∈ wsX80, w ∈ wsX8_beat := by decide +kernel
set_option maxHeartbeats 4000000 in
set_option maxRecDepth 100000 in
theorem c_X8_beat (l : Launch) (mo : Nat) (S : sS) (tf : Nat → Int32) (tn P : Nat) (C : Nat → sS) (kp : Nat → Bool) (a1 a2 : Int32) (σ : gS) (sz : Nat) (hW : Me σ mo S tf tn P C kp) (hok : okS S) (hokC : ∀ k : Nat, k < P → okS (C k)) : gM l yX8_beat wsX8_beat ({ frames := 5, cells := 0, slots := 0, locals := 113 } : Room) 0 0 [.ref mo, .int a1, .int a2] σ sz (gxi (fun r τ n => r = t_beat S a1 a2 ∧ Me τ mo S tf tn P C kp ∧ n = sz ∧ gAs (gZo mo 16) σ τ)) := by
  refine gM_of (cc := cX8_beat) (maxL := 3) (ret := (some .int)) (by decide) rfl (Nat.le_of_ble_eq_true rfl) ?_
  intro D ka lo hL hlo p e s m below meth c hx hb hr hts hown hml hlk hnm hK H locs ls hz hP hS hl
  have hl : lv_has ls 3 [(0, .ref mo), (1, .int a1), (2, .int a2)] := hl
  have hown : s.vm.findClass RX8 = some m.cls := hown
  obtain ⟨A, hMo, hA⟩ := hW
  have hR := hA.2.2.1
  have hR0 := hR
  have hP0 := hA.1
  have htn0 := hA.2.1
  have hP5 : P ≤ 5 := hA.2.2.2.2.2.2.2.2
  have htn : tn ≤ 60 := hA.2.2.2.2.2.2.2.1
  obtain ⟨hB, hN, hKs, hRs⟩ := id hok
  have hag : gAs (gZo mo 16) σ σ := gAs.rf
  refine lv_aload_n hx hb dX8_beat_0 rfl (lv_at hl 0 rfl) ?_
  refine lv_iload_n hx hb dX8_beat_1 rfl (lv_at hl 1 rfl) ?_
  refine g_runV (As := [.int a1]) (rest := []) (own := RX8) (C := RX8) (T := TX8) (N := 20) 1 hx hb hml hown hts hK hz hP hL hS hlo hl.1 (c_X8_noBeat l mo A S a1 σ sz hMo hR (by omega)) gX8_beat_X8_noBeat rfl rfl rfl (by decide +kernel) ⟨Nat.le_of_ble_eq_true rfl, Nat.le_of_ble_eq_true rfl⟩ hMo.c0 rfl rfl rfl (Nat.le_of_ble_eq_true rfl) dX8_beat_2 ⟨Nat.le_of_ble_eq_true rfl, Nat.le_of_ble_eq_true rfl⟩ (g_ki0 (fun H locs hz hP hL hS => ?_))
  refine g_ifb_eq (tgt := 10) hx hb dX8_beat_5 (by decide) (fun c5 => ?_) (fun c5 => ?_)
  · have c5 : inN a1 (sB S) = true := by simpa using c5
    obtain ⟨ha1e, ha1l⟩ := tk_in c5 (by omega)
    refine lv_aload_n hx hb dX8_beat_10 rfl (lv_at hl 0 rfl) ?_
    refine g_runV (As := []) (rest := []) (own := RX8) (C := RX8) (T := TX8) (N := 20) 0 hx hb hml hown hts hK hz hP hL hS hlo hl.1 (c_X8_liveAll l mo A S σ sz hMo hR (by omega) (by omega) (by omega)) gX8_beat_X8_liveAll rfl rfl rfl (by decide +kernel) ⟨Nat.le_of_ble_eq_true rfl, Nat.le_of_ble_eq_true rfl⟩ hMo.c0 rfl rfl rfl (Nat.le_of_ble_eq_true rfl) dX8_beat_11 ⟨Nat.le_of_ble_eq_true rfl, Nat.le_of_ble_eq_true rfl⟩ (g_kxv0 (fun τ_1 H locs z1 hz hp hP hL hS => ?_))
    obtain ⟨hz1, ⟨B_1, hm_1, hr_1, hv_1⟩, ha_1⟩ := hp
    have hz := hz.trans hz1
    have hMo := hm_1
    have hag := hag.tr ha_1 (fun q h => h)
    have hR : Rr S (B_1 1) := by rw [hr_1 1 (by decide) (by decide)]; exact hR
    have hsc : ∀ j : Nat, j ≤ 6 → j ≠ 2 → B_1 j = A j := fun j h1 h2 => hr_1 j (by omega) (by omega)
    have hdo : ∀ i b : Nat, i < sN S → b < sB S → B_1 10 (96 * i + b) = nI (dosQ S i b) := fun i b h1 h2 => (hv_1 i b h2 (Or.inl h1)).1
    have hle : ∀ i b : Nat, i < sN S → b < sB S → B_1 11 (96 * i + b) = leS S i b := fun i b h1 h2 => (hv_1 i b h2 (Or.inl h1)).2
    refine lv_iload_n hx hb dX8_beat_14 rfl (lv_at hl 2 rfl) ?_
    rcases Decidable.em (inB a2 (nI 0) (nI 7) = true) with hin15 | hout15
    · obtain ⟨k15, hk1, hk2, hke⟩ := inB_of (by decide) (by decide) hin15
      rcases (show k15 = 0 ∨ k15 = 1 ∨ k15 = 2 ∨ k15 = 3 ∨ k15 = 4 ∨ k15 = 5 ∨ k15 = 6 ∨ k15 = 7 by omega) with hk0 | hk0 | hk0 | hk0 | hk0 | hk0 | hk0 | hk0
      · have hsw : a2 = nI 0 := by rw [hke, hk0]
        refine g_top (y := nI 0) hsw ?_
        refine lv_tableIn (tgt := 60) (off := 45) hx hb dX8_beat_15 (by decide) (by decide) (by decide) (by decide) ?_
        refine lv_aload_n hx hb dX8_beat_60 rfl (lv_at hl 0 rfl) ?_
        refine g_get (C := RX8) (T := TX8) (N := 20) hx hb hts hown hK hP hMo.c0 nX8_beat_X8 rfl 0 (by decide) (by decide +kernel) rfl (v := .ref (mo + 1)) rfl dX8_beat_61 ?_
        refine lv_iconst (v := (nI 4)) hx hb dX8_beat_64 (by decide) ?_
        refine lv_iload_n hx hb dX8_beat_65 rfl (lv_at hl 1 rfl) ?_
        refine g_top (y := (nI (tk a1))) ha1e ?_
        refine lv_iadd hx hb dX8_beat_66 ?_
        refine g_top (nI_add 4 (tk a1)) ?_
        refine g_iald hx hb hK hP hMo.c1 (i := nI (4 + (tk a1))) (vp_in_nI (by omega) (by omega)) dX8_beat_67 ?_
        rw [nI_clamp (n := 4 + (tk a1)) (by omega)]
        exact g_iret (z := sz) hx hb hr hlk hz hP hL hS dX8_beat_68 (gxi_i ⟨by unfold t_beat; rw [if_pos (by first | exact c5 | exact nb c5 | exact Ne.symm c5 | exact fun q => q c5 | exact fun q => q c5.symm | omega), if_pos hsw]; exact hR.so ha1l, ⟨_, hMo, MeP.scr hA hsc⟩, rfl, hag⟩)
      · have hsw : a2 = nI 1 := by rw [hke, hk0]
        refine g_top (y := nI 1) hsw ?_
        refine lv_tableIn (tgt := 69) (off := 54) hx hb dX8_beat_15 (by decide) (by decide) (by decide) (by decide) ?_
        refine lv_aload_n hx hb dX8_beat_69 rfl (lv_at hl 0 rfl) ?_
        refine lv_iload_n hx hb dX8_beat_70 rfl (lv_at hl 1 rfl) ?_
        refine g_top (y := (nI (tk a1))) ha1e ?_
        refine g_runV (As := [.int (nI (tk a1))]) (rest := []) (own := RX8) (C := RX8) (T := TX8) (N := 20) 1 hx hb hml hown hts hK hz hP hL hS hlo hl.1 (c_X8_loud l mo B_1 S (tk a1) τ_1 sz hMo hR (by omega) (by omega)) gX8_beat_X8_loud rfl rfl rfl (by decide +kernel) ⟨Nat.le_of_ble_eq_true rfl, Nat.le_of_ble_eq_true rfl⟩ hMo.c0 rfl rfl rfl (Nat.le_of_ble_eq_true rfl) dX8_beat_71 ⟨Nat.le_of_ble_eq_true rfl, Nat.le_of_ble_eq_true rfl⟩ (g_ki0 (fun H locs hz hP hL hS => ?_))
        exact g_iret (z := sz) hx hb hr hlk hz hP hL hS dX8_beat_74 (gxi_i ⟨by unfold t_beat; rw [if_pos (by first | exact c5 | exact nb c5 | exact Ne.symm c5 | exact fun q => q c5 | exact fun q => q c5.symm | omega), if_neg (by rw [hsw]; decide), if_pos hsw], ⟨_, hMo, MeP.scr hA hsc⟩, rfl, hag⟩)
      · have hsw : a2 = nI 2 := by rw [hke, hk0]
        refine g_top (y := nI 2) hsw ?_
        refine lv_tableIn (tgt := 75) (off := 60) hx hb dX8_beat_15 (by decide) (by decide) (by decide) (by decide) ?_
        refine lv_aload_n hx hb dX8_beat_75 rfl (lv_at hl 0 rfl) ?_
        refine lv_iload_n hx hb dX8_beat_76 rfl (lv_at hl 1 rfl) ?_
        refine g_top (y := (nI (tk a1))) ha1e ?_
        refine g_runV (As := [.int (nI (tk a1))]) (rest := []) (own := RX8) (C := RX8) (T := TX8) (N := 20) 1 hx hb hml hown hts hK hz hP hL hS hlo hl.1 (c_X8_firstOf l mo B_1 S (tk a1) τ_1 sz hMo hR (by omega) (by omega)) gX8_beat_X8_firstOf rfl rfl rfl (by decide +kernel) ⟨Nat.le_of_ble_eq_true rfl, Nat.le_of_ble_eq_true rfl⟩ hMo.c0 rfl rfl rfl (Nat.le_of_ble_eq_true rfl) dX8_beat_77 ⟨Nat.le_of_ble_eq_true rfl, Nat.le_of_ble_eq_true rfl⟩ (g_ki0 (fun H locs hz hP hL hS => ?_))
        exact g_iret (z := sz) hx hb hr hlk hz hP hL hS dX8_beat_80 (gxi_i ⟨by unfold t_beat; rw [if_pos (by first | exact c5 | exact nb c5 | exact Ne.symm c5 | exact fun q => q c5 | exact fun q => q c5.symm | omega), if_neg (by rw [hsw]; decide), if_neg (by rw [hsw]; decide), if_pos hsw], ⟨_, hMo, MeP.scr hA hsc⟩, rfl, hag⟩)
      · have hsw : a2 = nI 3 := by rw [hke, hk0]
        refine g_top (y := nI 3) hsw ?_
        refine lv_tableIn (tgt := 81) (off := 66) hx hb dX8_beat_15 (by decide) (by decide) (by decide) (by decide) ?_
        refine lv_aload_n hx hb dX8_beat_81 rfl (lv_at hl 0 rfl) ?_
        refine lv_iload_n hx hb dX8_beat_82 rfl (lv_at hl 1 rfl) ?_
        refine g_top (y := (nI (tk a1))) ha1e ?_
        refine lv_iconst (v := (nI 0)) hx hb dX8_beat_83 (by decide) ?_
        refine g_runV (As := [.int (nI (tk a1)), .int (nI 0)]) (rest := []) (own := RX8) (C := RX8) (T := TX8) (N := 20) 2 hx hb hml hown hts hK hz hP hL hS hlo hl.1 (c_X8_many l mo B_1 S (tk a1) 0 τ_1 sz hMo hR (by omega) (by omega) (by omega)) gX8_beat_X8_many rfl rfl rfl (by decide +kernel) ⟨Nat.le_of_ble_eq_true rfl, Nat.le_of_ble_eq_true rfl⟩ hMo.c0 rfl rfl rfl (Nat.le_of_ble_eq_true rfl) dX8_beat_84 ⟨Nat.le_of_ble_eq_true rfl, Nat.le_of_ble_eq_true rfl⟩ (g_ki0 (fun H locs hz hP hL hS => ?_))
        exact g_iret (z := sz) hx hb hr hlk hz hP hL hS dX8_beat_87 (gxi_i ⟨by unfold t_beat; rw [if_pos (by first | exact c5 | exact nb c5 | exact Ne.symm c5 | exact fun q => q c5 | exact fun q => q c5.symm | omega), if_neg (by rw [hsw]; decide), if_neg (by rw [hsw]; decide), if_neg (by rw [hsw]; decide), if_neg (by rw [hsw]; decide)]; unfold pfI; rw [if_pos hsw, bc_ch ha1l hN (by decide), cntF_c (fun i hi => by rw [hdo i _ hi ha1l])], ⟨_, hMo, MeP.scr hA hsc⟩, rfl, hag⟩)
      · have hsw : a2 = nI 4 := by rw [hke, hk0]
        refine g_top (y := nI 4) hsw ?_
        refine lv_tableIn (tgt := 88) (off := 73) hx hb dX8_beat_15 (by decide) (by decide) (by decide) (by decide) ?_
        refine lv_aload_n hx hb dX8_beat_88 rfl (lv_at hl 0 rfl) ?_
        refine lv_iload_n hx hb dX8_beat_89 rfl (lv_at hl 1 rfl) ?_
        refine g_top (y := (nI (tk a1))) ha1e ?_
        refine g_runV (As := [.int (nI (tk a1))]) (rest := []) (own := RX8) (C := RX8) (T := TX8) (N := 20) 1 hx hb hml hown hts hK hz hP hL hS hlo hl.1 (c_X8_soloAt l mo B_1 S (tk a1) τ_1 sz hMo hR (by omega)) gX8_beat_X8_soloAt rfl rfl rfl (by decide +kernel) ⟨Nat.le_of_ble_eq_true rfl, Nat.le_of_ble_eq_true rfl⟩ hMo.c0 rfl rfl rfl (Nat.le_of_ble_eq_true rfl) dX8_beat_90 ⟨Nat.le_of_ble_eq_true rfl, Nat.le_of_ble_eq_true rfl⟩ (g_ki0 (fun H locs hz hP hL hS => ?_))
        exact g_iret (z := sz) hx hb hr hlk hz hP hL hS dX8_beat_93 (gxi_i ⟨by unfold t_beat; rw [if_pos (by first | exact c5 | exact nb c5 | exact Ne.symm c5 | exact fun q => q c5 | exact fun q => q c5.symm | omega), if_neg (by rw [hsw]; decide), if_neg (by rw [hsw]; decide), if_neg (by rw [hsw]; decide), if_pos hsw], ⟨_, hMo, MeP.scr hA hsc⟩, rfl, hag⟩)
      · have hsw : a2 = nI 5 := by rw [hke, hk0]
        refine g_top (y := nI 5) hsw ?_
        refine lv_tableIn (tgt := 94) (off := 79) hx hb dX8_beat_15 (by decide) (by decide) (by decide) (by decide) ?_
        refine lv_aload_n hx hb dX8_beat_94 rfl (lv_at hl 0 rfl) ?_
        refine lv_iload_n hx hb dX8_beat_95 rfl (lv_at hl 1 rfl) ?_
        refine g_top (y := (nI (tk a1))) ha1e ?_
        refine lv_iconst (v := (nI 1)) hx hb dX8_beat_96 (by decide) ?_
        refine g_runV (As := [.int (nI (tk a1)), .int (nI 1)]) (rest := []) (own := RX8) (C := RX8) (T := TX8) (N := 20) 2 hx hb hml hown hts hK hz hP hL hS hlo hl.1 (c_X8_many l mo B_1 S (tk a1) 1 τ_1 sz hMo hR (by omega) (by omega) (by omega)) gX8_beat_X8_many rfl rfl rfl (by decide +kernel) ⟨Nat.le_of_ble_eq_true rfl, Nat.le_of_ble_eq_true rfl⟩ hMo.c0 rfl rfl rfl (Nat.le_of_ble_eq_true rfl) dX8_beat_97 ⟨Nat.le_of_ble_eq_true rfl, Nat.le_of_ble_eq_true rfl⟩ (g_ki0 (fun H locs hz hP hL hS => ?_))
        exact g_iret (z := sz) hx hb hr hlk hz hP hL hS dX8_beat_100 (gxi_i ⟨by unfold t_beat; rw [if_pos (by first | exact c5 | exact nb c5 | exact Ne.symm c5 | exact fun q => q c5 | exact fun q => q c5.symm | omega), if_neg (by rw [hsw]; decide), if_neg (by rw [hsw]; decide), if_neg (by rw [hsw]; decide), if_neg (by rw [hsw]; decide)]; unfold pfI; rw [if_neg (by rw [hsw]; decide), if_pos hsw, bc_ch ha1l hN (by decide), cntF_c (fun i hi => by rw [hdo i _ hi ha1l])], ⟨_, hMo, MeP.scr hA hsc⟩, rfl, hag⟩)
      · have hsw : a2 = nI 6 := by rw [hke, hk0]
        refine g_top (y := nI 6) hsw ?_
        refine lv_tableIn (tgt := 101) (off := 86) hx hb dX8_beat_15 (by decide) (by decide) (by decide) (by decide) ?_
        refine lv_aload_n hx hb dX8_beat_101 rfl (lv_at hl 0 rfl) ?_
        refine lv_iload_n hx hb dX8_beat_102 rfl (lv_at hl 1 rfl) ?_
        refine g_top (y := (nI (tk a1))) ha1e ?_
        refine lv_iconst (v := (nI 2)) hx hb dX8_beat_103 (by decide) ?_
        refine g_runV (As := [.int (nI (tk a1)), .int (nI 2)]) (rest := []) (own := RX8) (C := RX8) (T := TX8) (N := 20) 2 hx hb hml hown hts hK hz hP hL hS hlo hl.1 (c_X8_many l mo B_1 S (tk a1) 2 τ_1 sz hMo hR (by omega) (by omega) (by omega)) gX8_beat_X8_many rfl rfl rfl (by decide +kernel) ⟨Nat.le_of_ble_eq_true rfl, Nat.le_of_ble_eq_true rfl⟩ hMo.c0 rfl rfl rfl (Nat.le_of_ble_eq_true rfl) dX8_beat_104 ⟨Nat.le_of_ble_eq_true rfl, Nat.le_of_ble_eq_true rfl⟩ (g_ki0 (fun H locs hz hP hL hS => ?_))
        exact g_iret (z := sz) hx hb hr hlk hz hP hL hS dX8_beat_107 (gxi_i ⟨by unfold t_beat; rw [if_pos (by first | exact c5 | exact nb c5 | exact Ne.symm c5 | exact fun q => q c5 | exact fun q => q c5.symm | omega), if_neg (by rw [hsw]; decide), if_neg (by rw [hsw]; decide), if_neg (by rw [hsw]; decide), if_neg (by rw [hsw]; decide)]; unfold pfI; rw [if_neg (by rw [hsw]; decide), if_neg (by rw [hsw]; decide), if_pos hsw, bc_ch ha1l hN (by decide), cntF_c (fun i hi => by rw [hdo i _ hi ha1l])], ⟨_, hMo, MeP.scr hA hsc⟩, rfl, hag⟩)
      · have hsw : a2 = nI 7 := by rw [hke, hk0]
        refine g_top (y := nI 7) hsw ?_
        refine lv_tableIn (tgt := 108) (off := 93) hx hb dX8_beat_15 (by decide) (by decide) (by decide) (by decide) ?_
        refine lv_aload_n hx hb dX8_beat_108 rfl (lv_at hl 0 rfl) ?_
        refine lv_iload_n hx hb dX8_beat_109 rfl (lv_at hl 1 rfl) ?_
        refine g_top (y := (nI (tk a1))) ha1e ?_
        refine lv_iconst (v := (nI 0)) hx hb dX8_beat_110 (by decide) ?_
        refine g_runV (As := [.int (nI (tk a1)), .int (nI 0)]) (rest := []) (own := RX8) (C := RX8) (T := TX8) (N := 20) 2 hx hb hml hown hts hK hz hP hL hS hlo hl.1 (c_X8_many l mo B_1 S (tk a1) 0 τ_1 sz hMo hR (by omega) (by omega) (by omega)) gX8_beat_X8_many rfl rfl rfl (by decide +kernel) ⟨Nat.le_of_ble_eq_true rfl, Nat.le_of_ble_eq_true rfl⟩ hMo.c0 rfl rfl rfl (Nat.le_of_ble_eq_true rfl) dX8_beat_111 ⟨Nat.le_of_ble_eq_true rfl, Nat.le_of_ble_eq_true rfl⟩ (g_ki0 (fun H locs hz hP hL hS => ?_))
        refine lv_aload_n hx hb dX8_beat_114 rfl (lv_at hl 0 rfl) ?_
        refine lv_iload_n hx hb dX8_beat_115 rfl (lv_at hl 1 rfl) ?_
        refine g_top (y := (nI (tk a1))) ha1e ?_
        refine g_runV (As := [.int (nI (tk a1))]) (rest := [.int (nI (cntF (fun i => decide (B_1 10 (96 * i + (tk a1)) = nI 0)) (sN S)))]) (own := RX8) (C := RX8) (T := TX8) (N := 20) 1 hx hb hml hown hts hK hz hP hL hS hlo hl.1 (c_X8_loud l mo B_1 S (tk a1) τ_1 sz hMo hR (by omega) (by omega)) gX8_beat_X8_loud rfl rfl rfl (by decide +kernel) ⟨Nat.le_of_ble_eq_true rfl, Nat.le_of_ble_eq_true rfl⟩ hMo.c0 rfl rfl rfl (Nat.le_of_ble_eq_true rfl) dX8_beat_116 ⟨Nat.le_of_ble_eq_true rfl, Nat.le_of_ble_eq_true rfl⟩ (g_ki0 (fun H locs hz hP hL hS => ?_))
        refine lv_imul hx hb dX8_beat_119 ?_
        exact g_iret (z := sz) hx hb hr hlk hz hP hL hS dX8_beat_120 (gxi_i ⟨by unfold t_beat; rw [if_pos (by first | exact c5 | exact nb c5 | exact Ne.symm c5 | exact fun q => q c5 | exact fun q => q c5.symm | omega), if_neg (by rw [hsw]; decide), if_neg (by rw [hsw]; decide), if_neg (by rw [hsw]; decide), if_neg (by rw [hsw]; decide)]; unfold pfI; rw [if_neg (by rw [hsw]; decide), if_neg (by rw [hsw]; decide), if_neg (by rw [hsw]; decide), if_pos hsw, bc_ch ha1l hN (by decide), cntF_c (fun i hi => by rw [hdo i _ hi ha1l])], ⟨_, hMo, MeP.scr hA hsc⟩, rfl, hag⟩)
    · refine lv_tableOut (tgt := 121) hx hb dX8_beat_15 (ts_out (by decide) (by decide) hout15) (by decide) ?_
      refine lv_bipush (v := (-2)) hx hb dX8_beat_121 (by decide) ?_
      exact g_iret (z := sz) hx hb hr hlk hz hP hL hS dX8_beat_123 (gxi_i ⟨by unfold t_beat; rw [if_pos (by first | exact c5 | exact nb c5 | exact Ne.symm c5 | exact fun q => q c5 | exact fun q => q c5.symm | omega), if_neg (fun q => hout15 (by rw [q]; decide)), if_neg (fun q => hout15 (by rw [q]; decide)), if_neg (fun q => hout15 (by rw [q]; decide)), if_neg (fun q => hout15 (by rw [q]; decide))]; unfold pfI; rw [if_neg (fun q => hout15 (by rw [q]; decide)), if_neg (fun q => hout15 (by rw [q]; decide)), if_neg (fun q => hout15 (by rw [q]; decide)), if_neg (fun q => hout15 (by rw [q]; decide))], ⟨_, hMo, MeP.scr hA hsc⟩, rfl, hag⟩)
  · have c5 : inN a1 (sB S) = false := by simpa using c5
    refine lv_iconst (v := (-1)) hx hb dX8_beat_8 (by decide) ?_
    exact g_iret (z := sz) hx hb hr hlk hz hP hL hS dX8_beat_9 (gxi_i ⟨by unfold t_beat; rw [if_neg (by first | exact c5 | exact nb c5 | exact Ne.symm c5 | exact fun q => q c5 | exact fun q => q c5.symm | omega)], ⟨_, hMo, hA⟩, rfl, hag⟩)
