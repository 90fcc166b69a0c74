/-! the reference's row follows the state -/
theorem upd_s (f : Nat → Int32) (k : Nat) (v : Int32) : upd f k v k = v := if_pos rfl
theorem upd_n {f : Nat → Int32} {k i : Nat} {v : Int32} (h : i ≠ k) : upd f k v i = f i := if_neg h
theorem Rr.congr {S : sS} {f g : Nat → Int32} (h : Rr S f) (hk : okS S) (hg : ∀ j, j < 292 → g j = f j) : Rr S g := by
  obtain ⟨hB, hN, hK, hR⟩ := hk
  refine ⟨⟨by rw [hg _ (by omega)]; exact h.b0, by rw [hg _ (by omega)]; exact h.n1, by rw [hg _ (by omega)]; exact h.k2, by rw [hg _ (by omega)]; exact h.r3⟩, fun b hb => ⟨by rw [hg _ (by omega)]; exact h.so hb, by rw [hg _ (by omega)]; exact h.lo hb⟩, fun i j hi hj => by rw [hg _ (by omega)]; exact h.si hi hj, fun i b hi hb => by rw [hg _ (by omega)]; exact h.mk hi hb, fun k j hk hj => by rw [hg _ (by omega)]; exact h.ks hk hj⟩
theorem Rr.setSort {S : sS} {f : Nat → Int32} (h : Rr S f) (hk : okS S) {k : Nat} {v : Int32} (hkB : k < sB S) : Rr (sRow S 0 (upd (S 0) k v)) (upd f (4 + k) v) := by
  obtain ⟨hB, hN, hK, hR⟩ := hk
  refine ⟨⟨by rw [upd_n (by omega)]; exact h.b0, by rw [upd_n (by omega)]; exact h.n1, by rw [upd_n (by omega)]; exact h.k2, by rw [upd_n (by omega)]; exact h.r3⟩, fun b hb => ⟨?_, ?_⟩, fun i j hi hj => ?_, fun i b hi hb => ?_, fun k2 j hk2 hj => ?_⟩
  · have hb : b < sB S := hb
    rw [sRow_s]
    by_cases c : b = k
    · subst c; rw [upd_s, upd_s]
    · rw [upd_n (by omega), upd_n c]; exact h.so hb
  · have hb : b < sB S := hb
    rw [upd_n (by omega)]; exact h.lo hb
  · have hi : i < sN S := hi
    rw [upd_n (by omega)]; exact h.si hi hj
  · have hi : i < sN S := hi
    have hb : b < sB S := hb
    rw [upd_n (by omega)]; exact h.mk hi hb
  · have hk2 : k2 < sK S := hk2
    rw [upd_n (by omega), sRow_n (by omega)]; exact h.ks hk2 hj
theorem Rr.setLoud {S : sS} {f : Nat → Int32} (h : Rr S f) (hk : okS S) {a k : Nat} {v : Int32} (hkB : k ≤ sB S) : Rr (louS S a k v) (filF f (100 + a) (100 + k) v) := by
  obtain ⟨hB, hN, hK, hR⟩ := hk
  have off : ∀ j, j < 100 ∨ 196 ≤ j → filF f (100 + a) (100 + k) v j = f j := fun j hj => by
    simp only [filF]; rw [if_neg (by omega)]
  refine ⟨⟨by rw [off _ (by omega)]; exact h.b0, by rw [off _ (by omega)]; exact h.n1, by rw [off _ (by omega)]; exact h.k2, by rw [off _ (by omega)]; exact h.r3⟩, fun b hb => ⟨?_, ?_⟩, fun i j hi hj => ?_, fun i b hi hb => ?_, fun k2 j hk2 hj => ?_⟩
  · have hb : b < sB S := hb
    rw [off _ (by omega)]; exact h.so hb
  · have hb : b < sB S := hb
    have e : louS S a k v 1 b = filF (S 1) a k v b := congrFun (sRow_s _ _ _) b
    rw [e]
    simp only [filF]
    by_cases c : a ≤ b ∧ b < k
    · rw [if_pos c, if_pos (by omega)]
    · rw [if_neg c, if_neg (by omega)]; exact h.lo hb
  · have hi : i < sN S := hi
    rw [off _ (by omega)]; exact h.si hi hj
  · have hi : i < sN S := hi
    have hb : b < sB S := hb
    rw [off _ (by omega)]; exact h.mk hi hb
  · have hk2 : k2 < sK S := hk2
    rw [off _ (by omega)]
    have e : louS S a k v (5 + j) = S (5 + j) := sRow_n (by omega)
    rw [e]; exact h.ks hk2 hj
theorem Rr.setRes {S : sS} {f : Nat → Int32} (h : Rr S f) (hk : okS S) {r : Nat} (hr : r < 2147483648) : Rr (sPut S 8 4 (nI r)) (upd f 3 (nI r)) := by
  obtain ⟨hB, hN, hK, hR⟩ := hk
  refine ⟨⟨by rw [upd_n (by omega)]; exact h.b0, by rw [upd_n (by omega)]; exact h.n1, by rw [upd_n (by omega)]; exact h.k2, ?_⟩, fun b hb => ⟨?_, ?_⟩, fun i j hi hj => ?_, fun i b hi hb => ?_, fun k2 j hk2 hj => ?_⟩
  · rw [upd_s]
    have e : sR (sPut S 8 4 (nI r)) = r := by
      show (sPut S 8 4 (nI r) 8 4).toNatClampNeg = r
      rw [sPut_s]; exact nI_clamp hr
    rw [e]
  · have hb : b < sB S := hb
    rw [upd_n (by omega)]; exact h.so hb
  · have hb : b < sB S := hb
    rw [upd_n (by omega)]; exact h.lo hb
  · have hi : i < sN S := hi
    rw [upd_n (by omega)]; exact h.si hi hj
  · have hi : i < sN S := hi
    have hb : b < sB S := hb
    rw [upd_n (by omega)]; exact h.mk hi hb
  · have hk2 : k2 < sK S := hk2
    rw [upd_n (by omega), sPut_n (by omega)]; exact h.ks hk2 hj
theorem prsS_p {S : sS} {i j : Nat} (hi : i < 32) (hj : j < 32) : presB (prsS S i) j = (presB S j ^^ decide (i = j)) := by
  show hasB (sPut S 8 2 (S 8 2 ^^^ bitI i) 8 2) j = _
  rw [sPut_s, hb_xor hi hj]
  rfl
theorem Rr.setPres {S : sS} {f : Nat → Int32} (h : Rr S f) (hk : okS S) {i : Nat} (hi : i < sN S) : Rr (prsS S i) (upd f (196 + 3 * i + 2) (bI (!presB S i))) := by
  obtain ⟨hB, hN, hK, hR⟩ := hk
  have r8 : ∀ j, j ≠ 2 → prsS S i 8 j = S 8 j := fun j hj => sPut_k hj
  have ro : ∀ r, r ≠ 8 → prsS S i r = S r := fun r hr => sPut_n hr
  have hp : ∀ j, j < 32 → presB (prsS S i) j = (presB S j ^^ decide (i = j)) := fun j hj => prsS_p (by omega) hj
  have eb : sB (prsS S i) = sB S := by show (prsS S i 8 0).toNatClampNeg = _; rw [r8 0 (by decide)]
  have en : sN (prsS S i) = sN S := by show (prsS S i 8 1).toNatClampNeg = _; rw [r8 1 (by decide)]
  have er : sR (prsS S i) = sR S := by show (prsS S i 8 4).toNatClampNeg = _; rw [r8 4 (by decide)]
  have ek : sK (prsS S i) = sK S := by show (prsS S i 8 3).toNatClampNeg = _; rw [r8 3 (by decide)]
  generalize prsS S i = V at *
  refine ⟨⟨by rw [upd_n (by omega), eb]; exact h.b0, by rw [upd_n (by omega), en]; exact h.n1, by rw [upd_n (by omega), ek]; exact h.k2, by rw [upd_n (by omega), er]; exact h.r3⟩, fun b hb => ⟨?_, ?_⟩, fun i2 j hi2 hj => ?_, fun i2 b hi2 hb => ?_, fun k2 j hk2 hj => ?_⟩
  · rw [eb] at hb
    rw [upd_n (by omega), ro 0 (by decide)]; exact h.so hb
  · rw [eb] at hb
    rw [upd_n (by omega), ro 1 (by decide)]; exact h.lo hb
  · rw [en] at hi2
    have e0 := h.si hi2 hj
    by_cases c : j = 2
    · subst c
      have e : ofS V i2 2 = bI (presB V i2) := rfl
      have e2 : ofS S i2 2 = bI (presB S i2) := rfl
      rw [e, hp i2 (by omega)]
      by_cases c2 : i2 = i
      · subst c2
        rw [upd_s, decide_eq_true (rfl : i2 = i2), Bool.xor_true]
      · rw [upd_n (by omega), e0, e2, decide_eq_false (Ne.symm c2), Bool.xor_false]
    · rw [upd_n (by omega), e0]
      simp only [ofS]
      rw [ro 3 (by decide), ro 4 (by decide)]
      rcases (show j = 0 ∨ j = 1 by omega) with rfl | rfl
      · rw [if_pos rfl, if_pos rfl]
      · rw [if_neg (by decide), if_pos rfl, if_neg (by decide), if_pos rfl]
  · rw [en] at hi2
    rw [eb] at hb
    rw [upd_n (by omega), h.mk hi2 hb]
    simp only [markB]
    rw [ro 2 (by decide)]
  · rw [ek] at hk2
    rw [upd_n (by omega), ro _ (by omega)]; exact h.ks hk2 hj
theorem mrkS_m {S : sS} {i b i2 b2 : Nat} (hi : i < 32) (hi2 : i2 < 32) : markB (mrkS S i b) i2 b2 = (markB S i2 b2 ^^ (decide (i = i2) && decide (b = b2))) := by
  show hasB (sRow S 2 (upd (S 2) b (S 2 b ^^^ bitI i)) 2 b2) i2 = _
  rw [sRow_s]
  by_cases c : b2 = b
  · subst c
    rw [upd_s, hb_xor hi hi2, decide_eq_true (rfl : b2 = b2), Bool.and_true]; rfl
  · rw [upd_n c, decide_eq_false (Ne.symm c), Bool.and_false, Bool.xor_false]; rfl
theorem Rr.setMark {S : sS} {f : Nat → Int32} (h : Rr S f) (hk : okS S) {i b : Nat} (hi : i < sN S) (hb : b < sB S) : Rr (mrkS S i b) (upd f (232 + 3 * i + b / 32) (f (232 + 3 * i + b / 32) ^^^ bitI (b % 32))) := by
  obtain ⟨hB, hN, hK, hR⟩ := hk
  refine ⟨⟨by rw [upd_n (by omega)]; exact h.b0, by rw [upd_n (by omega)]; exact h.n1, by rw [upd_n (by omega)]; exact h.k2, by rw [upd_n (by omega)]; exact h.r3⟩, fun b2 hb2 => ⟨?_, ?_⟩, fun i2 j hi2 hj => ?_, fun i2 b2 hi2 hb2 => ?_, fun k2 j hk2 hj => ?_⟩
  · have hb2 : b2 < sB S := hb2
    rw [upd_n (by omega)]; exact h.so hb2
  · have hb2 : b2 < sB S := hb2
    rw [upd_n (by omega)]; exact h.lo hb2
  · have hi2 : i2 < sN S := hi2
    rw [upd_n (by omega)]; exact h.si hi2 hj
  · have hi2 : i2 < sN S := hi2
    have hb2 : b2 < sB S := hb2
    have e0 := h.mk hi2 hb2
    rw [mrkS_m (by omega) (by omega)]
    by_cases c : i = i2 ∧ b / 32 = b2 / 32
    · obtain ⟨c1, c2⟩ := c
      subst c1
      rw [← c2] at e0 ⊢
      rw [upd_s, hb_xor (by omega) (by omega), e0, decide_eq_true (rfl : i = i), Bool.true_and]
      have e : decide (b % 32 = b2 % 32) = decide (b = b2) := decide_eq_decide.mpr ⟨fun q => by omega, fun q => by rw [q]⟩
      rw [e]
    · have e : (decide (i = i2) && decide (b = b2)) = false := by
        by_cases c1 : i = i2
        · rw [decide_eq_false (p := b = b2) (fun q => c ⟨c1, by rw [q]⟩), Bool.and_false]
        · rw [decide_eq_false (p := i = i2) c1, Bool.false_and]
      rw [upd_n (by omega), e0, e, Bool.xor_false]
  · have hk2 : k2 < sK S := hk2
    have e : mrkS S i b (5 + j) = S (5 + j) := sRow_n (by omega)
    rw [upd_n (by omega), e]; exact h.ks hk2 hj
theorem addS_n (S : sS) (br rc : Int32) (hN : sN S < 12) : sN (addS S br rc) = sN S + 1 := by
  show (sPut _ 8 1 (nI (sN S + 1)) 8 1).toNatClampNeg = _
  rw [sPut_s]; exact nI_clamp (by omega)
theorem addS_p {S : sS} {br rc : Int32} {j : Nat} (hN : sN S < 12) (hj : j < 32) : presB (addS S br rc) j = (presB S j || decide (sN S = j)) := by
  have e : addS S br rc 8 2 = S 8 2 ||| bitI (sN S) := rfl
  show hasB (addS S br rc 8 2) j = _
  rw [e, hb_or (by omega) hj]; rfl
theorem Rr.newSinger {S : sS} {f g : Nat → Int32} {br rc : Int32} (h : Rr S f) (hk : okS S) (hN : sN S < 12) (hz : ∀ b, b < sB S → markB S (sN S) b = false)
    (g1 : g 1 = nI (sN S + 1)) (ga : g (196 + 3 * sN S) = br) (gb : g (196 + 3 * sN S + 1) = rc) (gc : g (196 + 3 * sN S + 2) = nI 1) (gm : ∀ k, k < 3 → g (232 + 3 * sN S + k) = 0)
    (go : ∀ j, j ≠ 1 → (j < 196 + 3 * sN S ∨ 196 + 3 * sN S + 3 ≤ j) → (j < 232 + 3 * sN S ∨ 232 + 3 * sN S + 3 ≤ j) → g j = f j) : Rr (addS S br rc) g := by
  obtain ⟨hB, hN2, hK, hR⟩ := hk
  have en := addS_n S br rc hN
  refine ⟨⟨by rw [go _ (by omega) (by omega) (by omega)]; exact h.b0, by rw [g1, en], by rw [go _ (by omega) (by omega) (by omega)]; exact h.k2, by rw [go _ (by omega) (by omega) (by omega)]; exact h.r3⟩, fun b2 hb2 => ⟨?_, ?_⟩, fun i j hi hj => ?_, fun i b hi hb => ?_, fun k2 j hk2 hj => ?_⟩
  · have hb2 : b2 < sB S := hb2
    rw [go _ (by omega) (by omega) (by omega)]; exact h.so hb2
  · have hb2 : b2 < sB S := hb2
    rw [go _ (by omega) (by omega) (by omega)]; exact h.lo hb2
  · rw [en] at hi
    have e3 : addS S br rc 3 = upd (S 3) (sN S) br := rfl
    have e4 : addS S br rc 4 = upd (S 4) (sN S) rc := rfl
    by_cases c : i = sN S
    · subst c
      rcases (show j = 0 ∨ j = 1 ∨ j = 2 by omega) with rfl | rfl | rfl
      · show g (196 + 3 * sN S) = addS S br rc 3 (sN S)
        rw [e3, upd_s, ga]
      · show g (196 + 3 * sN S + 1) = addS S br rc 4 (sN S)
        rw [e4, upd_s, gb]
      · show g (196 + 3 * sN S + 2) = bI (presB (addS S br rc) (sN S))
        rw [addS_p hN (by omega), decide_eq_true rfl, Bool.or_true, gc]; rfl
    · have hi2 : i < sN S := by omega
      rw [go _ (by omega) (by omega) (by omega), h.si hi2 hj]
      rcases (show j = 0 ∨ j = 1 ∨ j = 2 by omega) with rfl | rfl | rfl
      · show S 3 i = addS S br rc 3 i
        rw [e3, upd_n c]
      · show S 4 i = addS S br rc 4 i
        rw [e4, upd_n c]
      · show bI (presB S i) = bI (presB (addS S br rc) i)
        rw [addS_p hN (by omega), decide_eq_false (Ne.symm c), Bool.or_false]
  · rw [en] at hi
    have hb : b < sB S := hb
    have e2 : markB (addS S br rc) i b = markB S i b := rfl
    rw [e2]
    by_cases c : i = sN S
    · subst c
      rw [gm (b / 32) (by omega), hz b hb]; exact hb_0 _
    · rw [go _ (by omega) (by omega) (by omega)]; exact h.mk (by omega) hb
  · have hk2 : k2 < sK S := hk2
    rw [go _ (by omega) (by omega) (by omega), h.ks hk2 hj]
    rcases (show j = 0 ∨ j = 1 ∨ j = 2 by omega) with rfl | rfl | rfl <;> rfl
/-- the solos of the reference, when one comes in -/
theorem Rr.putSolo {S : sS} {f g : Nat → Int32} {i fr to : Nat} (h : Rr S f) (hk : okS S) (hK8 : sK S < 8) (g2 : g 2 = nI (sK S + 1)) (go : ∀ j, j ≠ 2 → j < 268 → g j = f j)
    (gk : ∀ k j, k ≤ sK S → j < 3 → g (268 + 3 * k + j) = if k < insP S fr (sK S) then S (5 + j) k else if k = insP S fr (sK S) then (if j = 0 then nI i else if j = 1 then nI fr else nI to) else S (5 + j) (k - 1)) : Rr (insS S i fr to) g := by
  obtain ⟨hB, hN2, hK, hR⟩ := hk
  have ek : sK (insS S i fr to) = sK S + 1 := by
    show (sPut _ 8 3 (nI (sK S + 1)) 8 3).toNatClampNeg = _
    rw [sPut_s]; exact nI_clamp (by omega)
  refine ⟨⟨by rw [go _ (by omega) (by omega)]; exact h.b0, by rw [go _ (by omega) (by omega)]; exact h.n1, by rw [g2, ek], by rw [go _ (by omega) (by omega)]; exact h.r3⟩, fun b2 hb2 => ⟨?_, ?_⟩, fun i j hi hj => ?_, fun i b hi hb => ?_, fun k j hk2 hj => ?_⟩
  · have hb2 : b2 < sB S := hb2
    rw [go _ (by omega) (by omega)]; exact h.so hb2
  · have hb2 : b2 < sB S := hb2
    rw [go _ (by omega) (by omega)]; exact h.lo hb2
  · have hi : i < sN S := hi
    rw [go _ (by omega) (by omega), h.si hi hj]; rfl
  · have hi : i < sN S := hi
    have hb : b < sB S := hb
    rw [go _ (by omega) (by omega), h.mk hi hb]; rfl
  · rw [ek] at hk2
    rw [gk k j (by omega) hj]
    have hp := insP_le S fr (sK S)
    have key : ∀ (r : Nat) (v : Int32), (if k < insP S fr (sK S) then S r k else if k = insP S fr (sK S) then v else S r (k - 1)) = upd (shf (S r) (insP S fr (sK S)) (sK S)) (insP S fr (sK S)) v k := fun r v => by
      by_cases c : k = insP S fr (sK S)
      · rw [if_neg (by omega), if_pos c, ← c, upd_s]
      · rw [upd_n c]
        simp only [shf]
        by_cases c2 : k < insP S fr (sK S)
        · rw [if_pos c2, if_neg (by omega)]
        · rw [if_neg c2, if_neg c, if_pos (by omega)]
    rcases (show j = 0 ∨ j = 1 ∨ j = 2 by omega) with rfl | rfl | rfl
    · exact key 5 (nI i)
    · exact key 6 (nI fr)
    · exact key 7 (nI to)
theorem drpF_r {S : sS} {k : Nat} {r : Nat} (hr : 5 ≤ r ∧ r < 8) : ∀ n j, drpF S k n r j = if k ≤ j ∧ j < k + n then S r (j + 1) else S r j
  | 0, j => by rw [if_neg (by omega)]; rfl
  | n + 1, j => by
    have e : drpF S k (n + 1) r j = upd (drpF S k n r) (k + n) (drpF S k n r (k + n + 1)) j := by
      rcases (show r = 5 ∨ r = 6 ∨ r = 7 by omega) with rfl | rfl | rfl <;> rfl
    rw [e]
    by_cases c : j = k + n
    · rw [c, upd_s, drpF_r hr n, if_neg (by omega), if_pos (by omega)]
    · rw [upd_n c, drpF_r hr n]
      by_cases c2 : k ≤ j ∧ j < k + n
      · rw [if_pos c2, if_pos (by omega)]
      · rw [if_neg c2, if_neg (by omega)]
theorem drpF_o {S : sS} {k r : Nat} (hr : r < 5 ∨ 8 ≤ r) : ∀ n, drpF S k n r = S r
  | 0 => rfl
  | n + 1 => by
    have e : drpF S k (n + 1) r = drpF S k n r := by
      show sRow (sRow (sRow _ 5 _) 6 _) 7 _ r = _
      rw [sRow_n (by omega), sRow_n (by omega), sRow_n (by omega)]
    rw [e]; exact drpF_o hr n
theorem Rr.cutSolo {S : sS} {f g : Nat → Int32} {k0 : Nat} (h : Rr S f) (hk : okS S) (hk0 : k0 < sK S) (g2 : g 2 = nI (sK S - 1)) (go : ∀ j, j ≠ 2 → j < 268 → g j = f j)
    (gk : ∀ k j, k < sK S - 1 → j < 3 → g (268 + 3 * k + j) = if k0 ≤ k then S (5 + j) (k + 1) else S (5 + j) k) : Rr (drpS S k0) g := by
  obtain ⟨hB, hN2, hK, hR⟩ := hk
  have ro : ∀ r, r < 5 → drpS S k0 r = S r := fun r hr => by
    show sPut (drpF S k0 (sK S - 1 - k0)) 8 3 _ r = _
    rw [sPut_n (by omega)]; exact drpF_o (Or.inl hr) _
  have r8 : ∀ i, i ≠ 3 → drpS S k0 8 i = S 8 i := fun i hi => by
    show sPut (drpF S k0 (sK S - 1 - k0)) 8 3 _ 8 i = _
    rw [sPut_k hi, drpF_8]
  have eb : sB (drpS S k0) = sB S := by show (drpS S k0 8 0).toNatClampNeg = _; rw [r8 0 (by decide)]
  have en : sN (drpS S k0) = sN S := by show (drpS S k0 8 1).toNatClampNeg = _; rw [r8 1 (by decide)]
  have er : sR (drpS S k0) = sR S := by show (drpS S k0 8 4).toNatClampNeg = _; rw [r8 4 (by decide)]
  have ek : sK (drpS S k0) = sK S - 1 := by
    show (sPut _ 8 3 (nI (sK S - 1)) 8 3).toNatClampNeg = _
    rw [sPut_s]; exact nI_clamp (by omega)
  refine ⟨⟨by rw [go _ (by omega) (by omega), eb]; exact h.b0, by rw [go _ (by omega) (by omega), en]; exact h.n1, by rw [g2, ek], by rw [go _ (by omega) (by omega), er]; exact h.r3⟩, fun b2 hb2 => ⟨?_, ?_⟩, fun i j hi hj => ?_, fun i b hi hb => ?_, fun k j hk2 hj => ?_⟩
  · rw [eb] at hb2
    rw [go _ (by omega) (by omega), ro 0 (by decide)]; exact h.so hb2
  · rw [eb] at hb2
    rw [go _ (by omega) (by omega), ro 1 (by decide)]; exact h.lo hb2
  · rw [en] at hi
    rw [go _ (by omega) (by omega), h.si hi hj]
    simp only [ofS, presB]
    rw [ro 3 (by decide), ro 4 (by decide), r8 2 (by decide)]
  · rw [en] at hi
    rw [eb] at hb
    rw [go _ (by omega) (by omega), h.mk hi hb]
    simp only [markB]
    rw [ro 2 (by decide)]
  · rw [ek] at hk2
    rw [gk k j hk2 hj]
    show _ = sPut (drpF S k0 (sK S - 1 - k0)) 8 3 _ (5 + j) k
    rw [sPut_n (by omega), drpF_r (by omega)]
    by_cases c : k0 ≤ k
    · rw [if_pos c, if_pos (by omega)]
    · rw [if_neg c, if_neg (by omega)]
