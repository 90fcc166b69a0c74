/-! what every state keeps, on -/
theorem okX.setRes {S : sS} {r : Nat} (h : okX S) (hr : r ≤ 8) : okX (sPut S 8 4 (nI r)) := by
  have e : sR (sPut S 8 4 (nI r)) = r := by
    show (sPut S 8 4 (nI r) 8 4).toNatClampNeg = r
    rw [sPut_s]; exact nI_clamp (by omega)
  exact ⟨⟨h.1.1, h.1.2.1, h.1.2.2.1, by rw [e]; exact hr⟩, h.2.1, h.2.2⟩
theorem okX.newS {S : sS} {br rc : Int32} (h : okX S) (hN : sN S < 12) : okX (addS S br rc) := by
  have e8 : addS S br rc 8 2 = S 8 2 ||| bitI (sN S) := rfl
  refine ⟨⟨h.1.1, by rw [addS_n S br rc hN]; omega, h.1.2.2.1, h.1.2.2.2⟩, ?_, fun b hb => ?_⟩
  · rw [e8, addS_n S br rc hN]
    exact smB_or (smB_mono h.2.1 (by omega)) (by omega) (by omega)
  · rw [addS_n S br rc hN]
    exact smB_mono (h.2.2 b hb) (by omega)
theorem okX.ins {S : sS} {i fr to : Nat} (h : okX S) (hK : sK S < 8) : okX (insS S i fr to) := by
  have e : sK (insS S i fr to) = sK S + 1 := by
    show (sPut _ 8 3 (nI (sK S + 1)) 8 3).toNatClampNeg = _
    rw [sPut_s]; exact nI_clamp (by omega)
  exact ⟨⟨h.1.1, h.1.2.1, by rw [e]; omega, h.1.2.2.2⟩, h.2.1, h.2.2⟩
theorem drpF_oo (S : sS) (k : Nat) {j : Nat} (h5 : j ≠ 5) (h6 : j ≠ 6) (h7 : j ≠ 7) : ∀ n, drpF S k n j = S j
  | 0 => rfl
  | n + 1 => by
    rw [drpF, mvS, sRow_n h7, sRow_n h6, sRow_n h5]
    exact drpF_oo S k h5 h6 h7 n
theorem okX.drp {S : sS} {k : Nat} (h : okX S) : okX (drpS S k) := by
  have hK8 := h.1.2.2.1
  have e3 := drpS_K (S := S) (k0 := k) hK8
  have eo : ∀ j, j ≠ 3 → drpS S k 8 j = S 8 j := fun j hj => by
    show sPut (drpF S k (sK S - 1 - k)) 8 3 (nI (sK S - 1)) 8 j = _
    rw [sPut_k hj, drpF_8]
  have e2 : drpS S k 2 = S 2 := by
    show sPut (drpF S k (sK S - 1 - k)) 8 3 (nI (sK S - 1)) 2 = _
    rw [sPut_n (by decide), drpF_oo S k (by decide) (by decide) (by decide)]
  have eB : sB (drpS S k) = sB S := by show (drpS S k 8 0).toNatClampNeg = _; rw [eo 0 (by decide)]
  have eN : sN (drpS S k) = sN S := by show (drpS S k 8 1).toNatClampNeg = _; rw [eo 1 (by decide)]
  have eR : sR (drpS S k) = sR S := by show (drpS S k 8 4).toNatClampNeg = _; rw [eo 4 (by decide)]
  refine ⟨⟨by rw [eB]; exact h.1.1, by rw [eN]; exact h.1.2.1, by rw [e3]; omega, by rw [eR]; exact h.1.2.2.2⟩, ?_, fun b hb => ?_⟩
  · rw [eo 2 (by decide), eN]; exact h.2.1
  · rw [eB] at hb
    rw [e2, eN]; exact h.2.2 b hb
theorem wrF_o (f : Nat → Int32) (n : Nat) {j : Nat} (hj : 2 ≤ j) (h8 : j ≠ 8) : ∀ (k a : Nat) (V : sS), wrF f n k a V j = V j
  | 0, _, _ => rfl
  | k + 1, a, V => by
    rw [wrF]
    split
    · split
      · rw [wrF_o f n hj h8 k _ _]; exact appF_o _ _ _ hj h8 _
      · rfl
    · rfl
theorem wrF_8 (f : Nat → Int32) (n : Nat) {i : Nat} (hi : i ≠ 0) : ∀ (k a : Nat) (V : sS), wrF f n k a V 8 i = V 8 i
  | 0, _, _ => rfl
  | k + 1, a, V => by
    rw [wrF]
    split
    · split
      · rw [wrF_8 f n hi k _ _]; exact appF_8 _ _ _ hi _
      · rfl
    · rfl
theorem wrF_B {f : Nat → Int32} {n : Nat} (hn : n ≤ 60) : ∀ (d it a : Nat) (V : sS), it + d = 60 → sB V ≤ 96 → paF f n (60 - it) a (sB V) none = -1 → sB (wrF f n (60 - it) a V) ≤ 96
  | 0, it, a, V, h, hB, _ => by
    rw [wrF_e (Or.inl (by omega))]; exact hB
  | d + 1, it, a, V, h, hB, hp => by
    by_cases c : n ≤ a
    · rw [wrF_e (Or.inr c)]; exact hB
    · obtain ⟨h1, h2, h3⟩ := paF_ok hn (by omega) (by omega) hp
      rw [← wrF_s (by omega) (by omega) h1]
      have e := appF_B V (itF f n a).2.2.1 (itF f n a).2.2.2.1 (itF f n a).2.2.2.2 (by omega)
      exact wrF_B hn d (it + 1) _ _ (by omega) (by rw [e]; exact h2) (by rw [e]; exact h3)
theorem okX.readV {S : sS} {f : Nat → Int32} {n : Nat} (h : okX S) (hn : n ≤ 60) (hf : ffI f n < 0) : okX (wrF f n 60 0 (clearS S)) := by
  have eB : sB (wrF f n 60 0 (clearS S)) ≤ 96 := wrF_B hn 60 0 0 (clearS S) rfl (by rw [clearS_B]; omega) (by rw [clearS_B]; exact ff_ok hf hn)
  have e8 : ∀ i, i ≠ 0 → wrF f n 60 0 (clearS S) 8 i = clearS S 8 i := fun i hi => wrF_8 f n hi 60 0 _
  have e2 : wrF f n 60 0 (clearS S) 2 = fun _ => 0 := by rw [wrF_o f n (by decide) (by decide) 60 0 _]; exact sRow_s _ _ _
  have eN : sN (wrF f n 60 0 (clearS S)) = sN S := by show (wrF f n 60 0 (clearS S) 8 1).toNatClampNeg = _; rw [e8 1 (by decide)]; rfl
  have eK : sK (wrF f n 60 0 (clearS S)) = 0 := by show (wrF f n 60 0 (clearS S) 8 3).toNatClampNeg = _; rw [e8 3 (by decide)]; rfl
  have eR : sR (wrF f n 60 0 (clearS S)) = sR S := by show (wrF f n 60 0 (clearS S) 8 4).toNatClampNeg = _; rw [e8 4 (by decide)]; rfl
  have ep : wrF f n 60 0 (clearS S) 8 2 = S 8 2 := by rw [e8 2 (by decide)]; rfl
  exact ⟨⟨eB, by rw [eN]; exact h.1.2.1, by rw [eK]; omega, by rw [eR]; exact h.1.2.2.2⟩, by rw [ep, eN]; exact h.2.1, fun b hb => by rw [e2]; exact smB_0 _⟩
theorem okX.new : okX s0S := ⟨⟨by decide, by decide, by decide, by decide⟩, by rw [show s0S 8 2 = 0 from by decide]; exact smB_0 _, fun b hb => absurd hb (by rw [show sB s0S = 0 from by decide]; exact Nat.not_lt_zero b)⟩
theorem okX.mz {S : sS} (h : okX S) : ∀ b : Nat, b < sB S → markB S (sN S) b = false := fun b hb => h.2.2 b hb (sN S) (Nat.le_refl _) (by have := h.1.2.1; omega)
theorem okX.np {S : sS} (h : okX S) : bcI (S 8 2) = nI (cntF (presB S) (sN S)) := bcI_n h.2.1 h.1.2.1
/-! each act -/
theorem ox_setSort {S S2 : sS} {a1 a2 : Int32} (h : okX S) (e : (o_setSort S a1 a2).2 = some S2) : okX S2 := by
  unfold o_setSort at e
  split at e
  · split at e
    · cases e; exact h.setSort
    · cases e
  · cases e
theorem ox_addSinger {S S2 : sS} {a1 a2 : Int32} (h : okX S) (e : (o_addSinger S a1 a2).2 = some S2) : okX S2 := by
  unfold o_addSinger at e
  split at e
  · split at e
    · split at e
      · cases e; exact h.newS (by assumption)
      · cases e
    · cases e
  · cases e
theorem ox_setPresent {S S2 : sS} {a1 : Int32} {a2 : Bool} (h : okX S) (e : (o_setPresent S a1 a2).2 = some S2) : okX S2 := by
  unfold o_setPresent at e
  split at e
  · rename_i c
    split at e
    · cases e; exact h.setPres (tk_in c (by have := h.1.2.1; omega)).2
    · cases e
  · cases e
theorem ox_addSolo {S S2 : sS} {a1 a2 a3 : Int32} (h : okX S) (e : (o_addSolo S a1 a2 a3).2 = some S2) : okX S2 := by
  unfold o_addSolo at e
  split at e
  · split at e
    · split at e
      · split at e
        · split at e
          · cases e
          · split at e
            · cases e; exact h.ins (by assumption)
            · cases e
        · cases e
      · cases e
    · cases e
  · cases e
theorem ox_removeSolo {S S2 : sS} {a1 : Int32} (h : okX S) (e : (o_removeSolo S a1).2 = some S2) : okX S2 := by
  unfold o_removeSolo at e
  split at e
  · cases e; exact h.drp
  · cases e
theorem ox_mark {S S2 : sS} {a1 a2 : Int32} {a3 : Bool} (h : okX S) (e : (o_mark S a1 a2 a3).2 = some S2) : okX S2 := by
  unfold o_mark at e
  split at e
  · rename_i c1
    split at e
    · rename_i c2
      split at e
      · cases e; exact h.setMark (tk_in c1 (by have := h.1.2.1; omega)).2 (tk_in c2 (by have := h.1.1; omega)).2
      · cases e
    · cases e
  · cases e
theorem ox_setReserve {S S2 : sS} {a1 : Int32} (h : okX S) (e : (o_setReserve S a1).2 = some S2) : okX S2 := by
  unfold o_setReserve at e
  split at e
  · rename_i c
    cases e; exact h.setRes (tk_wi (by decide) (by decide) c).2.2
  · cases e
theorem ox_make {S S2 : sS} {np : Nat} (h : okX S) (e : (o_make S np).2 = some S2) : okX S2 := by
  unfold o_make at e
  split at e
  · cases e
  · split at e
    · cases e
    · cases e; exact h.plan
theorem ox_read {S S2 : sS} {f : Nat → Int32} {n : Nat} (h : okX S) (hn : n ≤ 60) (e : (o_read S f n).2 = some S2) : okX S2 := by
  unfold o_read at e
  split at e
  · cases e; exact h.readV hn (by assumption)
  · cases e
theorem ox_setLoudness {S S2 : sS} {a1 a2 a3 : Int32} (h : okX S) (e : (o_setLoudness S a1 a2 a3).2 = some S2) : okX S2 := by
  unfold o_setLoudness at e
  split at e
  · split at e
    · split at e
      · split at e
        · cases e; exact h.setLoud
        · cases e
      · cases e
    · cases e
  · cases e
theorem ox_restore {S S2 : sS} {C : Nat → sS} {kp : Nat → Bool} {a1 : Int32} (hK : ∀ k : Nat, k < 2 → kp k = true → okX (C (k + 5))) (e : (o_restore S C kp a1).2 = some S2) : okX S2 := by
  unfold o_restore at e
  split at e
  · rename_i c
    split at e
    · cases e; exact hK _ (tk_in c (by decide)).2 (by assumption)
    · cases e
  · cases e
/-! all states at once -/
def okA (S : sS) (P : Nat) (C : Nat → sS) (kp : Nat → Bool) : Prop := okX S ∧ (∀ k : Nat, k < P → okX (C k)) ∧ ∀ k : Nat, k < 2 → kp k = true → okX (C (k + 5))
section OKA
variable {S S2 : sS} {P : Nat} {C : Nat → sS} {kp : Nat → Bool}
theorem okA.act (h : okA S P C kp) (hP : P ≤ 5) (h2 : okX S2) : okA S2 (recP P) (recS C P S) kp := by
  refine ⟨h2, fun k hk => ?_, fun k hk hq => by rw [recS_k C S (by omega)]; exact h.2.2 k hk hq⟩
  by_cases c : P < 5
  · rw [recP_t c] at hk
    rw [recS_t C S c]
    by_cases c2 : k = P
    · rw [c2, uS_s]; exact h.1
    · rw [uS_n c2]; exact h.2.1 k (by omega)
  · have hk5 : k < 5 := Nat.lt_of_lt_of_le hk (recP_le P)
    rw [recS_f C S (by omega) hP]
    by_cases c2 : k = P - 1
    · rw [c2, uS_s]; exact h.1
    · rw [uS_n c2, rot_p]
      have e : rotp 4 k = k + 1 := by
        simp only [rotp, rtF]
        rw [if_pos (by omega)]
      rw [e]
      exact h.2.1 (k + 1) (by omega)
theorem okA.und (h : okA S P C kp) : okA (if P = 0 then S else C (P - 1)) (P - 1) C kp := by
  refine ⟨?_, fun k hk => h.2.1 k (by omega), h.2.2⟩
  by_cases c : P = 0
  · rw [if_pos c]; exact h.1
  · rw [if_neg c]; exact h.2.1 _ (by omega)
theorem okA.kee {a1 : Int32} (h : okA S P C kp) (hP : P ≤ 5) : okA S P (keepC C S a1) (keepK kp a1) := by
  by_cases c : inN a1 2 = true
  · have hl := (tk_in c (by decide)).2
    refine ⟨h.1, fun k hk => ?_, fun k hk hq => ?_⟩
    · rw [keepC, if_pos c, uS_n (by omega)]; exact h.2.1 k hk
    · rw [keepC, if_pos c]
      rw [keepK, if_pos c] at hq
      by_cases c2 : k = tk a1
      · rw [c2, uS_s]; exact h.1
      · rw [uS_n (by omega)]
        exact h.2.2 k hk (by rw [← hq]; exact (if_neg c2).symm)
  · rw [keepC, if_neg c, keepK, if_neg c]; exact h
theorem okA.ok (h : okA S P C kp) : okS S := h.1.1
theorem okA.okC (h : okA S P C kp) : ∀ k : Nat, k < P → okS (C k) := fun k hk => (h.2.1 k hk).1
theorem okA.okK (h : okA S P C kp) : ∀ k : Nat, k < 2 → kp k = true → okS (C (k + 5)) := fun k hk hq => (h.2.2 k hk hq).1
end OKA
/-! both objects, of one state -/
def LwI (σ : gS) (o mo b z : Nat) : Prop := ∃ (S : sS) (tf : Nat → Int32) (tn P : Nat) (C : Nat → sS) (kp : Nat → Bool), Wo σ o b S tf tn P C kp z ∧ Me σ mo S tf tn P C kp ∧ okA S P C kp
theorem Wo.c0 {σ : gS} {o b : Nat} {S : sS} {tf : Nat → Int32} {tn P : Nat} {C : Nat → sS} {kp : Nat → Bool} {z : Nat} (h : Wo σ o b S tf tn P C kp z) : ∃ fs, σ o = gO 7 fs := by
  obtain ⟨x, t, pa, sn, v, ch, tu, g, sg, -, h0, -⟩ := h
  exact ⟨_, h0⟩
theorem Me.c0 {σ : gS} {mo : Nat} {S : sS} {tf : Nat → Int32} {tn P : Nat} {C : Nat → sS} {kp : Nat → Bool} (h : Me σ mo S tf tn P C kp) : ∃ fs, σ mo = gO 8 fs := by
  obtain ⟨A, h1, h2⟩ := h
  exact ⟨_, h1.c0⟩
theorem Me.p5 {σ : gS} {mo : Nat} {S : sS} {tf : Nat → Int32} {tn P : Nat} {C : Nat → sS} {kp : Nat → Bool} (h : Me σ mo S tf tn P C kp) : P ≤ 5 ∧ tn ≤ 60 := by
  obtain ⟨A, h1, -, -, -, -, -, -, -, h8, h9⟩ := h
  exact ⟨h9, h8⟩
section LW
variable {o mo b : Nat} {σ τ υ : gS} {S : sS} {tf : Nat → Int32} {tn P : Nat} {C : Nat → sS} {kp : Nat → Bool} {sz n n2 : Nat} {r r2 : Int32}
theorem lw_me (hM : Me σ mo S tf tn P C kp) (ha : gAs (Zc o b) σ τ) (hmo : mo = o + 39) (hb : o + 55 ≤ b) : Me τ mo S tf tn P C kp :=
  hM.fr (fun q h1 h2 => ha q (fun h => h.elim (fun h3 => by have h4 := h3.2; omega) (fun h3 => by omega)))
theorem lw_wo {S2 : sS} {tf2 : Nat → Int32} {tn2 P2 : Nat} {C2 : Nat → sS} {kp2 : Nat → Bool} (hW : Wo τ o b S2 tf2 tn2 P2 C2 kp2 n) (ha : gAs (gZo mo 16) τ υ) (hmo : mo = o + 39) (hb : o + 55 ≤ b) : Wo υ o b S2 tf2 tn2 P2 C2 kp2 n :=
  hW.fr (fun q h1 h2 => ha q (fun h3 => h1.elim (fun h4 => by have h5 := h4.2; have h6 := h3.1; omega) (fun h4 => by have h6 := h3.2; omega)))
theorem law_act {res : Int32 × Option sS} (hw : wP o b σ S tf tn P C kp sz res r τ n) (hm : mP mo τ S tf tn P C kp n res r2 υ n2) (hmo : mo = o + 39) (hb : o + 55 ≤ b) (hA : okA S P C kp) (hP : P ≤ 5) (hX : ∀ S2, res.2 = some S2 → okX S2) : r = r2 ∧ n2 = n ∧ LwI υ o mo b n := by
  obtain ⟨e1, w1, w2, w3, w4⟩ := hw
  obtain ⟨f1, m1, m2, m3⟩ := hm
  refine ⟨e1.trans f1.symm, m2, ?_⟩
  cases e : res.2 with
  | none =>
    rw [e] at w1 m1
    exact ⟨S, tf, tn, P, C, kp, lw_wo w1 m3 hmo hb, m1, hA⟩
  | some S2 =>
    rw [e] at w1 m1
    exact ⟨S2, tf, tn, _, _, kp, lw_wo w1 m3 hmo hb, m1, hA.act hP (hX S2 e)⟩
theorem law_tell {t : Int32} {S2 : sS} {tf2 : Nat → Int32} {tn2 P2 : Nat} {C2 : Nat → sS} {kp2 : Nat → Bool} (hw : r = t ∧ Wo τ o b S2 tf2 tn2 P2 C2 kp2 n ∧ sz ≤ n ∧ n ≤ sz + 17 ∧ gAs (Zc o b) σ τ) (hm : r2 = t ∧ Me υ mo S2 tf2 tn2 P2 C2 kp2 ∧ n2 = n ∧ gAs (gZo mo 16) τ υ) (hmo : mo = o + 39) (hb : o + 55 ≤ b) (hA : okA S2 P2 C2 kp2) : r = r2 ∧ n2 = n ∧ LwI υ o mo b n := by
  obtain ⟨e1, w1, w2, w3, w4⟩ := hw
  obtain ⟨f1, m1, m2, m3⟩ := hm
  exact ⟨e1.trans f1.symm, m2, S2, tf2, tn2, P2, C2, kp2, lw_wo w1 m3 hmo hb, m1, hA⟩
end LW
theorem char_i (x : Int32) : vp_nar .char ((x.toUInt32 % 65536).toInt32) = (x.toUInt32 % 65536).toInt32 := by
  rw [vp_nar_char]
  apply Int32.toBitVec_inj.mp
  have h : ((x.toUInt32 % 65536).toUInt16.toUInt32) = x.toUInt32 % 65536 := by
    apply UInt32.toNat_inj.mp
    simp
  show (((x.toUInt32 % 65536).toInt32.toUInt32.toUInt16.toUInt32)).toInt32.toBitVec = _
  rw [show (x.toUInt32 % 65536).toInt32.toUInt32 = x.toUInt32 % 65536 from rfl, h]
theorem lw_cmp {i L : Nat} (hi : i ≤ 2100) (hL : L ≤ 2048) : nI L - nI 4 < nI i ↔ L < i + 4 := by
  by_cases c : 4 ≤ L
  · rw [pk_sub c, nI_ltI (by omega) (by omega)]
    omega
  · have h0 : (0 : Int32) ≤ nI i := nI_pos' (by omega)
    have h1 : nI L - nI 4 < 0 := by
      rcases (show L = 0 ∨ L = 1 ∨ L = 2 ∨ L = 3 by omega) with rfl | rfl | rfl | rfl <;> decide
    exact ⟨fun _ => by omega, fun _ => Int32.lt_of_lt_of_le h1 h0⟩
