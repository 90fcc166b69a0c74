/-! the breath that suffices -/
theorem Rr.setBr {S : sS} {f g : Nat → Int32} {i : Nat} {v : Int32} (h : Rr S f) (hk : okS S) (hi : i < sN S) (hg : ∀ x, x ≠ 196 + 3 * i → g x = f x) (hv : g (196 + 3 * i) = v) : Rr (sRow S 3 (upd (S 3) i v)) g := by
  obtain ⟨hB, hN, hK, hR⟩ := hk
  refine ⟨⟨by rw [hg _ (by omega)]; exact h.b0, by rw [hg _ (by omega)]; exact h.n1, by rw [hg _ (by omega)]; exact h.k2, by rw [hg _ (by omega)]; exact h.r3⟩, fun b hb => ⟨?_, ?_⟩, fun i2 j hi2 hj => ?_, fun i2 b hi2 hb => ?_, fun k2 j hk2 hj => ?_⟩
  · have hb : b < sB S := hb
    rw [hg _ (by omega)]; exact h.so hb
  · have hb : b < sB S := hb
    rw [hg _ (by omega)]; exact h.lo hb
  · have hi2 : i2 < sN S := hi2
    have e0 := h.si hi2 hj
    have e3 : sRow S 3 (upd (S 3) i v) 3 = upd (S 3) i v := rfl
    rcases (show j = 0 ∨ j = 1 ∨ j = 2 by omega) with rfl | rfl | rfl
    · show g (196 + 3 * i2) = sRow S 3 (upd (S 3) i v) 3 i2
      rw [e3]
      by_cases c : i2 = i
      · subst c; rw [hv, upd_s]
      · rw [hg _ (by omega), upd_n c]; exact e0
    · rw [hg _ (by omega)]; exact e0
    · rw [hg _ (by omega)]; exact e0
  · have hi2 : i2 < sN S := hi2
    have hb : b < sB S := hb
    rw [hg _ (by omega)]; exact h.mk hi2 hb
  · have hk2 : k2 < sK S := hk2
    have e : sRow S 3 (upd (S 3) i v) (5 + j) = S (5 + j) := sRow_n (by omega)
    rw [hg _ (by omega), e]; exact h.ks hk2 hj
theorem leftF_3 (S : sS) (f : Nat → Int32) (i : Nat) (br : Int32) : ∀ b, leftF (sRow S 3 f) i br b = leftF S i br b
  | 0 => rfl
  | b + 1 => by rw [leftF, leftF, leftF_3 S f i br b]; rfl
theorem dosF_3 (S : sS) (f : Nat → Int32) (i : Nat) (br : Int32) (b : Nat) : dosF (sRow S 3 f) i br b = dosF S i br b := by
  rw [dosF, dosF, leftF_3]; rfl
def Lv1 (S A : sS) (i b : Nat) : Prop := ∀ b2 : Nat, b2 < b → A 10 (96 * i + b2) = nI (dosQ S i b2) ∧ A 11 (96 * i + b2) = leftF S i (S 3 i) (b2 + 1)
theorem Lv1.step {S A : sS} {i b : Nat} (h : Lv1 S A i b) : Lv1 S (livA S A i b) i (b + 1) := by
  have la : laI S A i b = leftF S i (S 3 i) b := by
    rw [laI]
    by_cases c : b = 0
    · rw [if_pos c, c]; rfl
    · rw [if_neg c]
      have := (h (b - 1) (by omega)).2
      rw [show 96 * i + b - 1 = 96 * i + (b - 1) by omega, this, show b - 1 + 1 = b by omega]
  intro b2 hc
  have e10 : livA S A i b 10 = upd (A 10) (96 * i + b) (nI (doN S i b (laI S A i b))) := rfl
  have e11 : livA S A i b 11 = upd (A 11) (96 * i + b) (gtF S b (fun i => laI S A i b) i) := rfl
  rw [e10, e11]
  by_cases c : b2 = b
  · subst c
    rw [upd_s, upd_s, la]
    refine ⟨rfl, ?_⟩
    rw [gtF, la]
    rfl
  · rw [upd_n (by omega), upd_n (by omega)]
    exact h b2 (by omega)
theorem br_cnt {S : sS} {i w : Nat} {A : sS} (h : Lv1 (sRow S 3 (upd (S 3) i (nI w))) A i (sB S)) : cntF (fun b => decide (A 10 (96 * i + b) = nI 2)) (sB S) = cntF (fun j => decide (nI (dosF S i (nI w) j) = nI 2)) (sB S) := by
  apply cntF_c
  intro b hb
  have e : sRow S 3 (upd (S 3) i (nI w)) 3 i = nI w := by rw [sRow_s, upd_s]
  have := (h b hb).1
  rw [this]
  show decide (nI (dosF (sRow S 3 (upd (S 3) i (nI w))) i (sRow S 3 (upd (S 3) i (nI w)) 3 i) b) = nI 2) = _
  rw [e, dosF_3]
theorem br_n {S : sS} {i w : Nat} (hw : 0 < w) (hw2 : w ≤ 37) (h : cntF (fun j => decide (nI (dosF S i (nI (w + 3)) j) = nI 2)) (sB S) ≠ 0) : firstK (gasB S i) (37 - (w - 1)) (w - 1 + 4) = firstK (gasB S i) (37 - w) (w + 4) := by
  have hg : gasB S i (w + 3) = false := decide_eq_false h
  rw [show 37 - (w - 1) = (37 - w) + 1 by omega, show w - 1 + 4 = w + 3 by omega, firstK, if_neg (by rw [hg]; decide)]
theorem br_0 {p : Nat → Bool} {w : Nat} (h : w = 0) : firstK p (37 - w) (w + 4) = firstK p 37 4 := by subst h; rfl
theorem br_y {S : sS} {i w : Nat} (hw : 0 < w) (hw2 : w ≤ 37) (h : cntF (fun j => decide (nI (dosF S i (nI (w + 3)) j) = nI 2)) (sB S) = 0) : firstK (gasB S i) (37 - (w - 1)) (w - 1 + 4) = some (w + 3) := by
  have hg : gasB S i (w + 3) = true := decide_eq_true h
  rw [show 37 - (w - 1) = (37 - w) + 1 by omega, show w - 1 + 4 = w + 3 by omega, firstK, if_pos hg]
